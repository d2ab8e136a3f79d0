/-! ===== a command: the reference ===== -/
section RCM
variable {I : Ii} {J : Jj} {B : Nat → Int} {E : Nat} {σ : Nat → Int} {nm : Nat → Int64} {K A C : Nat → Int} {n w d p : Nat} {O : Nat → Nat}
theorem s_command (hM : MS σ) (hS : PSc E n w d p) (hL : LX B E d p I J) (hX : SX K A C n w I) (h2 : I 2 = σ) (h7 : J 7 = nm) {Q : Ii → Jj → Prop}
    (hb : ∀ c s I' J', cmdS B E nm (σ 0).toNat K A C n w d O p = .error (c, s, d) → BA c s d I' → Q I' J')
    (h1 : ∀ q k a c I' J', cmdS B E nm (σ 0).toNat K A C n w d O p = addS B E K A C n w d O q k a c 1 → LX B E d q I' J' → SX (updr K n k) (updr A n a) (updr C n c) (n + 1) (w + 1) I' → Q I' J')
    (h8 : ∀ q a I' J', cmdS B E nm (σ 0).toNat K A C n w d O p = .ok (updr K n 8, updr A n a, updr C n 0, n + 1, w + 1, d + 1, q, fun i => if i = d then n else O i) → LX B E (d + 1) q I' J' → SX (updr K n 8) (updr A n a) (updr C n 0) (n + 1) (w + 1) I' → Q I' J') : wp_X12_command I J Q := by
  obtain ⟨p1, p2, p3, hp⟩ := hS
  have b0 := ms_0 hM
  have x41 := hX.1
  have x42 := hX.2.1
  have x43 : I 0 43 = (d : Int) := hL.2.2.2.2.2.2.1
  have kb := kW_b (B := B) (E := E) (p := p)
  have mkB : ∀ {c : Int} {s : Nat} {I' : Ii}, RF c s d I' → I' 0 43 = I 0 43 → I' 2 = I 2 → BA c s d I' := fun q a b => ⟨q, a.trans x43, by rw [b, h2]; exact hM⟩
  refine fr_X12_commandHere (s_kind hL) (fun v hv => ?_)
  subst hv
  unfold cmdS at hb h1 h8
  have k6 : kW B E p ≠ -1 → tK B E p = 1 := fun z => Classical.byContradiction (fun y => z (by
    unfold kW
    rw [if_neg (fun q => y q.1), if_neg (fun q => y q.1), if_neg (fun q => y q.1), if_neg (fun q => y q.1), if_neg (fun q => y q.1), if_neg (fun q => y q.1), if_neg (fun q => y q.1), if_neg (fun q => y q.1), if_neg (fun q => y q.1)]))
  by_cases c1 : kW B E p = -1
  · rw [if_pos c1] at hb
    refine ⟨rgK (by omega), fun z => absurd c1 z, fun _ => wrong_of hL (c := 1) (by decide) (by split <;> rfl) (fun I' q s => ?_)⟩
    have s42 : I' 0 42 = (w : Int) := s.i.trans x42
    have s43 : I' 0 43 = I 0 43 := s.i
    have s2 : I' 2 = I 2 := s.k
    exact ⟨rgK (by omega), fun _ => x34 (by omega) (mkB q s43 s2) (fun I'' h => hb 1 _ I'' J rfl h), fun z => by omega⟩
  rw [if_neg c1] at hb h1 h8
  refine ⟨rgK (by omega), fun _ => ?_, fun z => absurd z c1⟩
  have tk := k6 c1
  by_cases c2 : kW B E p = 8 ∧ 2 ≤ d
  · rw [if_pos c2] at hb
    refine ⟨rgK (by omega), fun z => absurd c2.1 z, fun _ => ⟨rgK (by omega), fun z => absurd (by omega) z, fun _ => wrong_of hL (c := 4) (by decide) (by rw [if_neg (by omega)]) (fun I' q s => ?_)⟩⟩
    have s42 : I' 0 42 = (w : Int) := s.i.trans x42
    have s43 : I' 0 43 = I 0 43 := s.i
    have s2 : I' 2 = I 2 := s.k
    exact x34 (by omega) (mkB q s43 s2) (fun I'' h => hb 4 _ I'' J rfl h)
  rw [if_neg c2] at hb h1 h8
  have main : B_X12_command_34 Q (kW B E p) I J := by
    by_cases c3 : 30 ≤ w
    · rw [if_pos c3] at hb
      refine ⟨rgK (by omega), fun z => absurd (by omega) z, fun _ => wrong_of hL (c := 6) (by decide) (by rw [if_neg (by omega)]) (fun I' q s => ?_)⟩
      have s43 : I' 0 43 = I 0 43 := s.i
      have s2 : I' 2 = I 2 := s.k
      exact x49 (mkB q s43 s2) (fun I'' h => hb 6 _ I'' J rfl h)
    rw [if_neg c3] at hb h1 h8
    refine ⟨rgK (by omega), fun _ => good_of hL.1 ⟨fun _ I10 e10 => ?_, fun z => absurd z (by decide)⟩, fun z => absurd z (by omega)⟩
    have l10 : LX B E d p I10 J := hL.cong (fun i _ _ => by rw [e10, up2_ne (by omega)]) (by rw [e10, up2_ne (by omega)]) (by rw [e10, up2_key (by omega)]) rfl
    have X10 : SX K A C n (w + 1) I10 := ⟨by rw [e10, up2_ne (by omega)]; exact x41, by rw [e10, up2_self, x42]; omega, fun i hi => by rw [e10, up2_key (by omega), up2_key (by omega), up2_key (by omega)]; exact hX.2.2 i hi⟩
    refine goOn_of l10 (fun I11 J11 l11 s11 => ?_)
    have X11 : SX K A C n (w + 1) I11 := X10.cong s11.i s11.i s11.k s11.k s11.k
    have f2 : I11 2 = σ := by have : I11 2 = I10 2 := s11.k
                              rw [this, e10, up2_key (by omega)]; exact h2
    have f7 : J11 7 = nm := s11.kJ.trans h7
    have hz : I11 0 41 = (n : Int) := X11.1
    have hn : n < 60 := by omega
    clear s11 l10 X10 e10
    refine ⟨by omega, fun I13 e13 => ?_⟩
    rw [hz, show ((n : Int)).toNat = n by omega] at e13
    generalize hk : kW B E p = k at kb c1 c2 hb h1 h8 e13 ⊢
    have l13 : LX B E d (tE B E p) I13 J11 := l11.up e13 (by decide)
    have g2 : I13 2 = σ := by rw [e13, up2_key (by omega)]; exact f2
    have g43 : I13 0 43 = (d : Int) := l13.2.2.2.2.2.2.1
    have P13 : SP K A C n (w + 1) k (I13 17 n) (I13 18 n) I13 := by
      refine ⟨⟨by rw [e13, up2_key (by omega)]; exact X11.1, by rw [e13, up2_key (by omega)]; exact X11.2.1, fun i hi => ?_⟩, by rw [e13, up2_self], fun _ => rfl, fun _ => rfl⟩
      rw [e13, up2_ne (by omega), up2_key (by omega), up2_key (by omega)]
      exact X11.2.2 i hi
    clear e13 l11 X11
    have mk2 : ∀ {c : Int} {s : Nat} {I' : Ii}, RF c s d I' → I' 0 43 = I13 0 43 → I' 2 = I13 2 → BA c s d I' := fun q a b => ⟨q, a.trans g43, by rw [b, g2]; exact hM⟩
    have kj : k ≠ 8 → 0 ≤ k ∧ k ≤ 7 := fun z => by omega
    have plain : k ≠ 8 → k ≠ 2 → ¬ (k = 4 ∨ k = 7) → k ≠ 6 → B_X12_command_113 Q k (I11 0 41) I13 J11 := by
      intro a1 a2 a3 a4
      rw [if_neg a1, if_neg a2, if_neg a3, if_neg a4] at h1
      have P : SP K A C n (w + 1) k 0 0 I13 := ⟨P13.1, P13.2.1, fun z => by omega, fun z => by omega⟩
      refine ⟨rgK (by omega), fun _ => g132 (kj a1) a4 (g195 (kj a1) l13 P g2 f7 p3 (fun I' l x _ _ => h1 _ k 0 0 I' J11 rfl l x)), fun z => absurd z a2⟩
    have numb : (k = 4 ∨ k = 7) → B_X12_command_99 Q k (I11 0 41) I13 J11 := by
      intro a3
      rw [if_neg (show ¬ k = 8 by omega), if_neg (show ¬ k = 2 by omega), if_pos a3] at h1 hb
      unfold numS at h1 hb
      refine number_of l13 (by decide) (fun kn I15 J15 l15 s15 => ⟨by omega, fun I17 e17 => ?_⟩) (fun kn v I15 q15 s15 => ⟨by omega, fun I17 e17 => ?_⟩)
      · rw [if_neg (fun z => z kn)] at h1
        rw [hz, show ((n : Int)).toNat = n by omega] at e17
        have P15 := P13.fr (I' := I15) s15.i s15.i s15.k s15.k s15.k
        have P17 := P15.w17 e17
        have P : SP K A C n (w + 1) k (tN B E (tE B E p)) 0 I17 := ⟨P17.1, P17.2.1, P17.2.2.1, fun z => by omega⟩
        have e2 : I17 2 = σ := by rw [e17, up2_key (by omega), s15.k]; exact g2
        refine ⟨rgK (by omega), fun _ => g132 (kj (by omega)) (by omega) (g195 (kj (by omega)) (l15.up e17 (by decide)) P e2 (s15.kJ.trans f7) p3 (fun I' l x _ _ => h1 _ k _ 0 I' J15 rfl l x)), fun z => by omega⟩
      · rw [if_pos kn] at hb
        exact x113 hz hn (by omega) ((mk2 q15 s15.i s15.k).up e17 (by decide) (by decide)) (fun I'' h => hb _ _ I'' _ rfl h)
    refine ⟨rgK (by omega), fun c => ?_, fun c => ⟨fun c4 => numb (Or.inl c4), fun c4 => ⟨fun c7 => ?_, fun c7 => numb (Or.inr c7)⟩⟩⟩
    · -- move
      rw [if_neg (show ¬ k = 8 by omega), if_pos c] at h1 hb
      unfold movS at h1 hb
      refine number_of l13 (by decide) (fun kn I15 J15 l15 s15 => ⟨by omega, fun I17 e17 => ?_⟩) (fun kn v I15 q15 s15 => ⟨by omega, fun I17 e17 => ?_⟩)
      · rw [if_neg (fun z => z kn)] at h1 hb
        rw [hz, show ((n : Int)).toNat = n by omega] at e17
        have P17 := (P13.fr (I' := I15) s15.i s15.i s15.k s15.k s15.k).w17 e17
        have l17 := l15.up e17 (by decide)
        have e2 : I17 2 = σ := by rw [e17, up2_key (by omega), s15.k]; exact g2
        have e43 : I17 0 43 = (d : Int) := l17.2.2.2.2.2.2.1
        refine ⟨rgK (by omega), fun z => absurd c z, fun _ => number_of l17 (by decide) (fun kn2 I19 J19 l19 s19 => ⟨by omega, fun I21 e21 => ?_⟩) (fun kn2 v I19 q19 s19 => ⟨by omega, fun I21 e21 => ?_⟩)⟩
        · rw [if_neg (fun z => z kn2)] at h1
          rw [hz, show ((n : Int)).toNat = n by omega] at e21
          have P21 := (P17.fr (I' := I19) s19.i s19.i s19.k s19.k s19.k).w18 e21
          have e22 : I21 2 = σ := by rw [e21, up2_key (by omega), s19.k]; exact e2
          exact g132 (kj (by omega)) (by omega) (g195 (kj (by omega)) (l19.up e21 (by decide)) P21 e22 (s19.kJ.trans (s15.kJ.trans f7)) p3 (fun I' l x _ _ => h1 _ 2 _ _ I' J19 rfl l (by rw [c] at x; exact x)))
        · rw [if_pos kn2] at hb
          exact x132 hz hn (by omega) (BA.up (I := I19) ⟨q19, s19.i.trans e43, by rw [s19.k, e2]; exact hM⟩ e21 (by decide) (by decide)) (fun I'' h => hb _ _ I'' _ rfl h)
      · rw [if_pos kn] at hb
        exact x113 hz hn (by omega) ((mk2 q15 s15.i s15.k).up e17 (by decide) (by decide)) (fun I'' h => hb _ _ I'' _ rfl h)
    · by_cases c8 : k = 8
      · -- repeat
        rw [if_pos c8] at h8 hb
        unfold repS at h8 hb
        refine ⟨rgK (by omega), fun _ => ⟨rgK (by omega), fun _ => ⟨rgK (by omega), fun _ => ⟨rgK (by omega), fun z => absurd c8 z, fun _ => ?_⟩, fun z => by omega⟩, fun z => by omega⟩, fun z => by omega⟩
        refine number_of l13 (by decide) (fun kn I15 J15 l15 s15 => ⟨by omega, fun I17 e17 => ?_⟩) (fun kn v I15 q15 s15 => ⟨by omega, fun I17 e17 => ?_⟩)
        · rw [if_neg (fun z => z kn)] at h8 hb
          rw [hz, show ((n : Int)).toNat = n by omega] at e17
          have P17 := (P13.fr (I' := I15) s15.i s15.i s15.k s15.k s15.k).w17 e17
          have l17 := l15.up e17 (by decide)
          have e2 : I17 2 = σ := by rw [e17, up2_key (by omega), s15.k]; exact g2
          have e43 : I17 0 43 = (d : Int) := l17.2.2.2.2.2.2.1
          refine ⟨rgK (by omega), fun z => absurd c8 z, fun _ => must_of l17 (k := 4) (by omega) (fun k4 I35 J35 l35 s35 => ?_) (fun k4 I35 q35 s35 => ?_)⟩
          · rw [if_neg (fun z => z k4)] at h8
            have P35 := P17.fr (I' := I35) s35.i s35.i s35.k s35.k s35.k
            have P : SP K A C n (w + 1) 8 (tN B E (tE B E p)) 0 I35 := ⟨P35.1, P35.2.1.trans c8, fun _ => P35.2.2.1 (by omega), fun z => by omega⟩
            have h43 : I35 0 43 = (d : Int) := l35.2.2.2.2.2.2.1
            refine good_of l35.1 ⟨fun _ I37 e37 => ⟨rgK (by omega), fun z => absurd c8 z, fun _ => ?_⟩, fun z => absurd z (by decide)⟩
            refine fr_X12_truth (s_truth (Or.inr rfl)) (fun v hv => ?_)
            subst hv
            intro I40 e40
            have f43 : I37 0 43 = (d : Int) := by rw [e37, up2_ne (by omega)]; exact h43
            have ek : ∀ q, q ≠ 0 → I40 q = I35 q := fun q z => by rw [e40, up2_key z, e37, up2_key z]
            refine h8 (tE B E (tE B E (tE B E p))) _ I40 J35 rfl ?_ (SX.done P (by rw [e40, up2_ne (by omega), e37, up2_self]) (by rw [e40, up2_ne (by omega), e37, up2_ne (by omega)]) (ek 16 (by omega)) (ek 17 (by omega)) (ek 18 (by omega)))
            have l40 : LX B E d (tE B E (tE B E (tE B E p))) (up2 I40 0 43 (d : Int)) J35 := l35.cong (fun i z1 z2 => by rw [up2_ne (by omega), e40, up2_ne (by omega), e37, up2_ne (by omega)]) (by rw [up2_self, h43]) (by rw [up2_key (by omega)]; exact ek 1 (by omega)) rfl
            obtain ⟨y8, y9, y10, yL, y3, yB, y43, yp, yE, yb⟩ := l40
            have eq : ∀ i, i ≠ 43 → up2 I40 0 43 (d : Int) 0 i = I40 0 i := fun i z => up2_ne (by omega)
            unfold LK at yL
            rw [eq 5 (by omega), eq 4 (by omega), eq 6 (by omega), eq 7 (by omega)] at yL
            refine ⟨by rw [← eq 8 (by omega)]; exact y8, by rw [← eq 9 (by omega)]; exact y9, by rw [← eq 10 (by omega)]; exact y10, yL, by rw [← eq 3 (by omega)]; exact y3, by rw [← yB, up2_key (by omega)], by rw [e40, up2_self, f43]; omega, yp, yE, yb⟩
          · rw [if_pos k4] at hb
            exact x195 (⟨q35, s35.i.trans e43, by rw [s35.k, e2]; exact hM⟩ : BA _ _ d I35) (fun I'' h => hb _ _ I'' _ rfl h)
        · rw [if_pos kn] at hb
          exact x183 (by omega) ((mk2 q15 s15.i s15.k).up e17 (by decide) (by decide)) (fun I'' h => hb _ _ I'' _ rfl h)
      · by_cases c6 : k = 6
        · -- apart
          rw [if_neg c8, if_neg c, if_neg (show ¬ (k = 4 ∨ k = 7) by omega), if_pos c6] at h1 hb
          unfold apaS at h1 hb
          refine ⟨rgK (by omega), fun _ => ⟨rgK (by omega), fun z => absurd c6 z, fun _ => ?_⟩, fun z => absurd z c⟩
          refine told_of l13 (by rw [g2]; exact hM) (fun k1 n1 I15 J15 l15 s15 => ⟨by omega, fun I17 e17 => ?_⟩) (fun c' hc' hn' v I15 v1 v2 q15 s15 => ⟨by omega, fun I17 e17 => ?_⟩)
          · rw [g2, f7] at n1 e17
            have vk : vOK B E nm (σ 0).toNat (tE B E p) := ⟨k1, n1⟩
            rw [if_neg (fun z => z vk)] at h1 hb
            rw [hz, show ((n : Int)).toNat = n by omega] at e17
            have P17 := (P13.fr (I' := I15) s15.i s15.i s15.k s15.k s15.k).w17 e17
            have l17 := l15.up e17 (by decide)
            have e2 : I17 2 = σ := by rw [e17, up2_key (by omega), s15.k]; exact g2
            have e7 : J15 7 = nm := s15.kJ.trans f7
            have e43 : I17 0 43 = (d : Int) := l17.2.2.2.2.2.2.1
            refine ⟨rgK (by omega), fun z => absurd c6 z, fun _ => told_of l17 (by rw [e2]; exact hM) (fun k2 n2 I19 J19 l19 s19 => ⟨by omega, fun I21 e21 => ?_⟩) (fun c' hc' hn' v I19 v1 v2 q19 s19 => ⟨by omega, fun I21 e21 => ?_⟩)⟩
            · rw [e2, e7] at n2 e21
              have vk2 : vOK B E nm (σ 0).toNat (tE B E (tE B E p)) := ⟨k2, n2⟩
              rw [if_neg (fun z => z vk2)] at h1
              rw [hz, show ((n : Int)).toNat = n by omega] at e21
              have P21 := (P17.fr (I' := I19) s19.i s19.i s19.k s19.k s19.k).w18 e21
              have e22 : I21 2 = σ := by rw [e21, up2_key (by omega), s19.k]; exact e2
              exact g164 (kj c8) (g195 (kj c8) (l19.up e21 (by decide)) P21 e22 (s19.kJ.trans e7) p3 (fun I' l x _ _ => h1 _ 6 _ _ I' J19 rfl l (by rw [c6] at x; exact x)))
            · rw [e2, e7] at hn'
              have vk2 : ¬ vOK B E nm (σ 0).toNat (tE B E (tE B E p)) := fun z => z.2 (hn' z.1)
              rw [if_pos vk2] at hb
              have hcc : c' = vC B E (tE B E (tE B E p)) := hc'
              rw [hcc] at q19
              exact x164 hz hn (by omega) (BA.up (I := I19) ⟨q19, s19.i.trans e43, by rw [s19.k, e2]; exact hM⟩ e21 (by decide) (by decide)) (fun I'' h => hb _ _ I'' _ rfl h)
          · rw [g2, f7] at hn'
            have vk : ¬ vOK B E nm (σ 0).toNat (tE B E p) := fun z => z.2 (hn' z.1)
            rw [if_pos vk] at hb
            have hcc : c' = vC B E (tE B E p) := hc'
            rw [hcc] at q15
            exact x148 hz hn (by omega) ((mk2 q15 s15.i s15.k).up e17 (by decide) (by decide)) (fun I'' h => hb _ _ I'' _ rfl h)
        · exact plain c8 c (by omega) c6
  refine ⟨rgK (by omega), fun _ => main, fun c8 => ⟨rgK (by omega), fun _ => main, fun z => absurd ⟨c8, by omega⟩ c2⟩⟩
end RCM
