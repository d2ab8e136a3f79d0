/-! ===== a whole script: the reference ===== -/
/-- what the reference has behind a script -/
def RZ (x : SR) (I : Ii) : Prop := PO2 x (fun c s d => RF c s d I) (fun t => I 0 8 = 0 ∧ I 0 9 = -1 ∧ I 0 10 = -1 ∧ SX t.1 t.2.1 t.2.2.1 t.2.2.2.1 t.2.2.2.2.1 I)
section RSL
variable {B : Nat → Int} {E : Nat} {σ : Nat → Int} {nm : Nat → Int64} {m : Nat}
theorem LX.dep {I I' : Ii} {J : Jj} {d d' p : Nat} (h : LX B E d p I J) (e : ∀ i, i ≠ 43 → i < 41 → I' 0 i = I 0 i) (e43 : I' 0 43 = (d' : Int)) (e1 : I' 1 = I 1) : LX B E d' p I' J := by
  obtain ⟨y8, y9, y10, yL, y3, yB, y43, yp, yE, yb⟩ := h
  refine ⟨(e 8 (by omega) (by omega)).trans y8, (e 9 (by omega) (by omega)).trans y9, (e 10 (by omega) (by omega)).trans y10, ?_, (e 3 (by omega) (by omega)).trans y3, e1.trans yB, e43, yp, yE, yb⟩
  unfold LK
  rw [e 5 (by omega) (by omega), e 4 (by omega) (by omega), e 6 (by omega) (by omega), e 7 (by omega) (by omega)]
  exact yL
theorem s_closesL {Q : Ii → Jj → Prop} {x : SR} {I0 : Ii} {J0 : Jj} {P0 : Nat} (hbad : ∀ c s d (I' : Ii) (J' : Jj), x = .error (c, s, d) → RF c s d I' → I' 0 43 = (d : Int) → Same W_X12_command I0 J0 I' J' → Q I' J')
    (hgood : ∀ f K A C n w d p O (I' : Ii) (J' : Jj), P0 ≤ p → scr B E nm m f (K, A, C, n, w, d, p, O) = x → E + 1 ≤ p + f → PSc E n w d p → ¬ (tK B E p = 5 ∧ 0 < d) → LX B E d p I' J' → SX K A C n w I' → Same W_X12_command I0 J0 I' J' → Q I' J') :
    ∀ (f : Nat) (K A C : Nat → Int) (n w d p : Nat) (O : Nat → Nat) (I : Ii) (J : Jj), P0 ≤ p → scr B E nm m f (K, A, C, n, w, d, p, O) = x → E + 1 ≤ p + f → PSc E n w d p → LX B E d p I J → SX K A C n w I → Same W_X12_command I0 J0 I J → L_X12_closes_0 Q f I J
  | 0, K, A, C, n, w, d, p, O, I, J, _, _, h1, hS, _, _, _ => by have := hS.2.2.2; omega
  | f + 1, K, A, C, n, w, d, p, O, I, J, h0, hx, h1, hS, hL, hX, hs => by
    have hp := hS.2.2.2
    have h43 : I 0 43 = (d : Int) := hL.2.2.2.2.2.2.1
    have hS' := hS
    obtain ⟨p1, p2, p3, -⟩ := hS'
    refine ls_X12_closes_0 ?_
    unfold Lb_X12_closes_0
    refine ⟨rgK (by omega), fun c => hgood (f + 1) K A C n w d p O I J h0 hx h1 hS (fun z => by omega) hL hX hs, fun c => sign_of hL (k := 5) (by omega) (fun k5 => ⟨fun z => absurd z (by decide), fun _ => ?_⟩) (fun k5 => ⟨fun _ => hgood (f + 1) K A C n w d p O I J h0 hx h1 hS (fun z => k5 z.1) hL hX hs, fun z => absurd rfl z⟩)⟩
    have c0 : tK B E p ≠ 0 := by omega
    have b1 := tE_b (B := B) hp
    have b2 := tK_lt (B := B) hp c0
    have b3 := tS_b (B := B) hp
    have b4 := tE_b (B := B) b1.2.1
    have e1 : oneS B E nm m K A C n w d O p = cloS B E K A C n w d O p := by unfold oneS; rw [if_pos k5, if_neg (by omega)]
    have hP := oneS_PO (B := B) (nm := nm) (m := m) (K := K) (A := A) (C := C) (O := O) hS c0
    intro I3 e3
    have f41 : I3 0 41 = (n : Int) := by rw [e3, up2_ne (by omega)]; exact hX.1
    refine ⟨by omega, fun I5 e5 I6 e6 => ?_⟩
    rw [f41, show ((n : Int)).toNat = n by omega] at e5
    have ek : ∀ k, k ≠ 0 → k ≠ 16 → I6 k = I k := fun k a b => by rw [e6, up2_key a, e5, up2_key b, e3, up2_key a]
    have e0 : ∀ i, i ≠ 43 → i ≠ 41 → I6 0 i = I 0 i := fun i a b => by rw [e6, up2_ne (by omega), e5, up2_key (by omega), e3, up2_ne (by omega)]
    have q41 : I6 0 41 = ((n + 1 : Nat) : Int) := by rw [e6, up2_self, e5, up2_key (by omega), f41]; omega
    have q43 : I6 0 43 = ((d - 1 : Nat) : Int) := by rw [e6, up2_ne (by omega), e5, up2_key (by omega), e3, up2_self, h43]; omega
    have hL6 : LX B E (d - 1) p I6 J := hL.dep (fun i a b => e0 i a (by omega)) q43 (ek 1 (by omega) (by omega))
    have hX6 : SX (updr K n 9) (updr A n ((O (d - 1) : Nat) : Int)) (updr C n 0) (n + 1) w I6 := by
      refine ⟨q41, by rw [e0 42 (by omega) (by omega)]; exact hX.2.1, fun i hi => ?_⟩
      have e16 : I6 16 i = if i = n then 9 else I 16 i := by
        rw [e6, up2_key (by omega), e5]
        by_cases ci : i = n
        · rw [ci, up2_self, if_pos rfl]
        · rw [up2_ne (by omega), if_neg ci, e3, up2_key (by omega)]
      rw [e16, ek 17 (by omega) (by omega), ek 18 (by omega) (by omega)]
      by_cases ci : i = n
      · rw [if_pos ci, ci, updr_self]
        exact ⟨rfl, fun z => by omega, fun z => by omega⟩
      · rw [if_neg ci, updr_ne ci, updr_ne ci, updr_ne ci]; exact hX.2.2 i (by omega)
    have hs6 : Same W_X12_command I0 J0 I6 J := ((hs.upI e3 (by unfold W_X12_command WL; decide)).upI e5 (by unfold W_X12_command WL wl; simp [wl])).upI e6 (by unfold W_X12_command WL; decide)
    refine goOn_of hL6 (fun I7 J7 l7 s7 => ?_)
    have hs7 := hs6.trans s7 (WL_sub (by decide))
    have hX7 := hX6.cong (I' := I7) s7.i s7.i s7.k s7.k s7.k
    refine must_of l7 (k := 3) (by omega) (fun k3 I8 J8 l8 s8 => ?_) (fun k3 I8 q8 s8 => ?_)
    · have e2 : cloS B E K A C n w d O p = .ok (updr K n 9, updr A n ((O (d - 1) : Nat) : Int), updr C n 0, n + 1, w + 0, d - 1, tE B E (tE B E p), O) := by unfold cloS addS; rw [if_pos k3]
      rw [e2] at e1
      rw [e1] at hP
      rw [scr_s c0 e1] at hx
      exact s_closesL hbad hgood f _ _ _ (n + 1) w (d - 1) (tE B E (tE B E p)) O I8 J8 (by omega) hx (by omega) hP.1 l8 (hX7.cong s8.i s8.i s8.k s8.k s8.k) (hs7.trans s8 (WL_sub (by decide)))
    · have e2 : cloS B E K A C n w d O p = .error (1, tS B E (tE B E p), d - 1) := by unfold cloS addS; rw [if_neg k3]
      rw [e2] at e1
      rw [scr_e c0 e1] at hx
      have g43 : I8 0 43 = ((d - 1 : Nat) : Int) := s8.i.trans (s7.i.trans q43)
      have fin : Q I8 J7 := hbad _ _ _ I8 J7 hx.symm q8 g43 (hs7.trans s8 (WL_sub (by decide)))
      cases f with
      | zero => exact absurd h1 (by omega)
      | succ f' =>
        refine ls_X12_closes_0 ?_
        unfold Lb_X12_closes_0
        exact ⟨rgK (by omega), fun _ => fin, fun _ => bad_of q8 ⟨fun _ => ⟨fun _ => fin, fun z => absurd rfl z⟩, fun z => absurd rfl z⟩⟩
theorem s_scrL {Q : Int → Ii → Jj → Prop} {x : SR} {I0 : Ii} {J0 : Jj} (hM : MS σ) (h2 : I0 2 = σ) (h7 : J0 7 = nm) (hq : ∀ (I' : Ii) (J' : Jj), RZ x I' → Same W_X12_command I0 J0 I' J' → B_X12_runScript_77 Q I' J') :
    ∀ (g f : Nat) (K A C : Nat → Int) (n w d p : Nat) (O : Nat → Nat) (I : Ii) (J : Jj), E + 1 ≤ p + g → scr B E nm (σ 0).toNat f (K, A, C, n, w, d, p, O) = x → E + 1 ≤ p + f → PSc E n w d p → ¬ (tK B E p = 5 ∧ 0 < d) → LX B E d p I J → SX K A C n w I → Same W_X12_command I0 J0 I J → L_X12_runScript_14 Q g I J
  | 0, f, K, A, C, n, w, d, p, O, I, J, hg, _, _, hS, _, _, _, _ => by have := hS.2.2.2; omega
  | g + 1, 0, K, A, C, n, w, d, p, O, I, J, _, _, h1, hS, _, _, _, _ => by have := hS.2.2.2; omega
  | g + 1, f + 1, K, A, C, n, w, d, p, O, I, J, hg, hx, h1, hS, hn, hL, hX, hs => by
    have hp := hS.2.2.2
    have h43 : I 0 43 = (d : Int) := hL.2.2.2.2.2.2.1
    have hS' := hS
    obtain ⟨p1, p2, p3, -⟩ := hS'
    obtain ⟨r6, -, i0, -⟩ := sort1 hL
    refine ls_X12_runScript_14 ?_
    unfold Lb_X12_runScript_14
    refine good_of hL.1 ⟨fun z => absurd z (by decide), fun _ => ⟨r6, fun c => ?_, fun c => ?_⟩⟩
    · have c0 := i0.mp c
      rw [scr_0 c0] at hx
      refine good_of hL.1 ⟨fun z => absurd z (by decide), fun _ => ⟨rgK (by omega), fun z => hq I J ?_ hs, fun z => wrong_of hL (c := 1) (by decide) (by split <;> rfl) (fun I' q s => hq I' J ?_ (hs.trans s (WL_sub (by decide))))⟩⟩
      · rw [if_pos (by omega)] at hx
        rw [← hx]
        exact ⟨hL.1, hL.2.1, hL.2.2.1, hX⟩
      · rw [if_neg (by omega)] at hx
        rw [← hx]
        exact q
    · have c0 : tK B E p ≠ 0 := fun z => c (i0.mpr z)
      have b1 := tE_b (B := B) hp
      have b2 := tK_lt (B := B) hp c0
      have b3 := tS_b (B := B) hp
      have k2 : I 2 = σ := (hs.k (l := [(0, 4), (0, 5), (0, 6), (0, 7), (0, 8), (0, 9), (0, 10), (0, 14), (0, 41), (0, 42), (0, 43), (16, 1000), (17, 1000), (18, 1000)])).trans h2
      have k7 : J 7 = nm := (hs.kJ (l := [(0, 4), (0, 5), (0, 6), (0, 7), (0, 8), (0, 9), (0, 10), (0, 14), (0, 41), (0, 42), (0, 43), (16, 1000), (17, 1000), (18, 1000)])).trans h7
      have e1 : oneS B E nm (σ 0).toNat K A C n w d O p = cmdS B E nm (σ 0).toNat K A C n w d O p := by
        unfold oneS
        by_cases c5 : tK B E p = 5
        · have d0 : d = 0 := by omega
          have kk : kW B E p = -1 := by
            unfold kW
            rw [if_neg (fun q => by have := q.1; omega), if_neg (fun q => by have := q.1; omega), if_neg (fun q => by have := q.1; omega), if_neg (fun q => by have := q.1; omega), if_neg (fun q => by have := q.1; omega), if_neg (fun q => by have := q.1; omega), if_neg (fun q => by have := q.1; omega), if_neg (fun q => by have := q.1; omega), if_neg (fun q => by have := q.1; omega)]
          subst d0
          rw [if_pos c5, if_pos rfl]
          unfold cmdS
          rw [if_pos kk]
        · rw [if_neg c5]
      have hP := oneS_PO (B := B) (nm := nm) (m := (σ 0).toNat) (K := K) (A := A) (C := C) (O := O) hS c0
      -- behind a fault
      have bad14 : ∀ (c : Int) (s d : Nat) (I' : Ii) (J' : Jj), x = .error (c, s, d) → RF c s d I' → Same W_X12_command I0 J0 I' J' → L_X12_runScript_14 Q g I' J' := by
        intro c' s' d' I' J' hx' q sI
        cases g with
        | zero => exact absurd hg (by omega)
        | succ g' =>
          refine ls_X12_runScript_14 ?_
          unfold Lb_X12_runScript_14
          exact bad_of q ⟨fun _ => bad_of q ⟨fun _ => hq I' J' (by rw [hx']; exact q) sI, fun z => absurd rfl z⟩, fun z => absurd rfl z⟩
      have bad51 : ∀ (c : Int) (s d : Nat) (I' : Ii) (J' : Jj), x = .error (c, s, d) → RF c s d I' → rg (I' 0 43) → Same W_X12_command I0 J0 I' J' → B_X12_runScript_51 Q (L_X12_runScript_14 Q g) I' J' := by
        intro c' s' d' I' J' hx' q r43 sI
        have fin := bad14 c' s' d' I' J' hx' q sI
        refine ⟨1, ls_X12_closes_0 ?_⟩
        unfold Lb_X12_closes_0
        exact ⟨r43, fun _ => fin, fun _ => bad_of q ⟨fun _ => ⟨fun _ => fin, fun z => absurd rfl z⟩, fun z => absurd rfl z⟩⟩
      have good51 : ∀ K' A' C' n' w' d' p' O' (I' : Ii) (J' : Jj), oneS B E nm (σ 0).toNat K A C n w d O p = .ok (K', A', C', n', w', d', p', O') → LX B E d' p' I' J' → SX K' A' C' n' w' I' → Same W_X12_command I0 J0 I' J' → B_X12_runScript_51 Q (L_X12_runScript_14 Q g) I' J' := by
        intro K' A' C' n' w' d' p' O' I' J' ho l x' sI
        rw [ho] at hP
        rw [scr_s c0 ho] at hx
        obtain ⟨hS2, hlt⟩ : PSc E n' w' d' p' ∧ p < p' := hP
        refine ⟨f, s_closesL (P0 := p') (x := x) (I0 := I0) (J0 := J0) (fun c s d I' J' hx' q q43 sI => bad14 c s d I' J' hx' q sI) (fun f2 K2 A2 C2 n2 w2 d2 p2 O2 I2 J2 hp2 hx2 h12 hS3 hn2 l2 x2 s2 => s_scrL hM h2 h7 hq g f2 K2 A2 C2 n2 w2 d2 p2 O2 I2 J2 (by omega) hx2 h12 hS3 hn2 l2 x2 s2) f K' A' C' n' w' d' p' O' I' J' (Nat.le_refl _) hx (by omega) hS2 l x' sI⟩
      refine fr_X12_command (P := fun I6 J6 => Same W_X12_command I J I6 J6 → rg (I6 0 43) ∧ rg (I 0 43) ∧ (¬ (I6 0 43) = (I 0 43) → B_X12_runScript_51 Q (L_X12_runScript_14 Q g) I6 J6) ∧ ((I6 0 43) = (I 0 43) → wp_X12_mustSign 59 I6 J6 (fun I9 J9 => B_X12_runScript_51 Q (L_X12_runScript_14 Q g) I9 J9))) ?_ (fun I6 J6 h s => h s)
      refine s_command (O := O) hM hS hL hX k2 k7 (fun c s I' J' hc q s6 => ?_) (fun q k a c I' J' hc l x' s6 => ?_) (fun q a I' J' hc l x' s6 => ?_)
      · have hx' : x = .error (c, s, d) := by rw [← hx]; exact scr_e c0 (e1.trans hc)
        have q43 := q.2.1
        exact ⟨rgK (by omega), rgK (by omega), fun z => absurd (q43.trans h43.symm) z, fun _ => mustB_of q.1 (bad51 c s d I' J' hx' q.1 (rgK (by omega)) (hs.trans s6 (fun _ _ z => z)))⟩
      · have q43 : I' 0 43 = (d : Int) := l.2.2.2.2.2.2.1
        refine ⟨rgK (by omega), rgK (by omega), fun z => absurd (q43.trans h43.symm) z, fun _ => must_of l (k := 3) (by omega) (fun k3 I9 J9 l9 s9 => ?_) (fun k3 I9 q9 s9 => ?_)⟩
        · unfold addS at hc
          rw [if_pos k3] at hc
          exact good51 _ _ _ (n + 1) (w + 1) d (tE B E q) O I9 J9 (e1.trans hc) l9 (x'.cong s9.i s9.i s9.k s9.k s9.k) ((hs.trans s6 (fun _ _ z => z)).trans s9 (WL_sub (by decide)))
        · unfold addS at hc
          rw [if_neg k3] at hc
          have g43 : I9 0 43 = (d : Int) := s9.i.trans q43
          exact bad51 _ _ _ I9 J' (by rw [← hx]; exact scr_e c0 (e1.trans hc)) q9 (rgK (by omega)) ((hs.trans s6 (fun _ _ z => z)).trans s9 (WL_sub (by decide)))
      · have q43 : I' 0 43 = ((d + 1 : Nat) : Int) := l.2.2.2.2.2.2.1
        refine ⟨rgK (by omega), rgK (by omega), fun _ => good51 _ _ _ (n + 1) (w + 1) (d + 1) q _ I' J' (e1.trans hc) l x' (hs.trans s6 (fun _ _ z => z)), fun z => by omega⟩
end RSL
