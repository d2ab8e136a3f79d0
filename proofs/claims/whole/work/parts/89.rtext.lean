/-! ===== readText of the reference ===== -/
section RTX
variable {I : Ii} {J : Jj} {B : Nat → Int} {E : Nat}
theorem s_beginsText (h : I 0 2 = (E : Int)) (hE : E ≤ 800) (hB : I 1 = B) (hb : ∀ i, i < E → 0 ≤ B i ∧ B i ≤ 255) : wp_X12_beginsText I J (fun I' J' => LX B E 0 0 I' J' ∧ I' 0 2 = 0) := by
  intro I1 e1 I2 e2 I3 e3 I4 e4 I5 e5 I6 e6 I7 e7
  have k1 : I7 1 = B := by rw [e7, up2_key (by omega), e6, up2_key (by omega), e5, up2_key (by omega), e4, up2_key (by omega), e3, up2_key (by omega), e2, up2_key (by omega), e1, up2_key (by omega)]; exact hB
  have r3 : I7 0 3 = (E : Int) := by rw [e7, up2_ne (by omega), e6, up2_ne (by omega), e5, up2_ne (by omega), e4, up2_ne (by omega), e3, up2_ne (by omega), e2, up2_ne (by omega), e1, up2_self]; exact h
  have r2 : I7 0 2 = 0 := by rw [e7, up2_ne (by omega), e6, up2_ne (by omega), e5, up2_ne (by omega), e4, up2_ne (by omega), e3, up2_ne (by omega), e2, up2_self]
  have r4 : I7 0 4 = ((0 : Nat) : Int) := by rw [e7, up2_ne (by omega), e6, up2_ne (by omega), e5, up2_ne (by omega), e4, up2_ne (by omega), e3, up2_self]; rfl
  have r8 : I7 0 8 = 0 := by rw [e7, up2_ne (by omega), e6, up2_ne (by omega), e5, up2_ne (by omega), e4, up2_self]
  have r9 : I7 0 9 = -1 := by rw [e7, up2_ne (by omega), e6, up2_ne (by omega), e5, up2_self]
  have r10 : I7 0 10 = -1 := by rw [e7, up2_ne (by omega), e6, up2_self]
  have r43 : I7 0 43 = ((0 : Nat) : Int) := by rw [e7, up2_self]; rfl
  refine fr_X12_goOn (s_goOn r3 r4 (Nat.zero_le _) hE k1 hb) (fun I' J' q s => ⟨⟨s.i.trans r8, s.i.trans r9, s.i.trans r10, q, s.i.trans r3, s.k.trans k1, s.i.trans r43, Nat.zero_le _, hE, hb⟩, s.i.trans r2⟩)
theorem s_readL {Q : Int → Ii → Jj → Prop} {I0 : Ii} {J0 : Jj} : ∀ (f : Nat) (t : St) (I : Ii) (J : Jj), PSt E t → RT B E t I J → E + 1 ≤ t.2.2.2 + f → Same W_X12_statement I0 J0 I J → (∀ I' J', RQ B E (txt B E f t) I' J' → Same W_X12_statement I0 J0 I' J' → B_X12_readText_64 Q I' J') → L_X12_readText_43 Q f I J
  | 0, t, I, J, hS, _, h1, _, _ => by have := hS.2.2.2; omega
  | f + 1, t, I, J, hS, hR, h1, hs, hq => by
    have hL := hR.1
    obtain ⟨r6, -, i0, -⟩ := sort1 hL
    refine ls_X12_readText_43 ?_
    unfold Lb_X12_readText_43
    refine good_of hL.1 ⟨fun z => absurd z (by decide), fun _ => ⟨r6, fun c => ?_, fun c => ?_⟩⟩
    · refine hq I J ?_ hs
      rw [txt_0 (i0.mp c)]
      exact hR
    · have c0 : tK B E t.2.2.2 ≠ 0 := fun z => c (i0.mpr z)
      have hP := stm_PO hS c0
      refine fr_X12_statement (s_statement hS c0 hR) (fun I2 J2 h2 s2 => ?_)
      have hs2 := hs.trans s2 (fun _ _ z => z)
      cases hx : stm B E t with
      | error e =>
        rw [hx] at h2
        have h2' : RF e.1 e.2 0 I2 ∧ Tl 350 (I2 2) ∧ TlJ 14 (J2 7) := h2
        have hfin : B_X12_readText_64 Q I2 J2 := hq I2 J2 (by rw [txt_e c0 hx]; exact h2') hs2
        cases f with
        | zero => exact absurd hS.2.2.2 (by
            have hE1 : E + 1 ≤ t.2.2.2 + 1 := h1
            have kl := tK_lt (B := B) hS.2.2.2 c0
            have b := tE_b (B := B) hS.2.2.2
            have b3 := tS_b (B := B) hS.2.2.2
            omega)
        | succ f' =>
          refine ls_X12_readText_43 ?_
          unfold Lb_X12_readText_43
          exact bad_of h2'.1 ⟨fun _ => hfin, fun z => absurd rfl z⟩
      | ok u =>
        rw [hx] at h2 hP
        exact s_readL f u I2 J2 hP.1 h2 (by have := hP.2; omega) hs2 (fun I' J' q s => hq I' J' (by rw [txt_s c0 hx]; exact q) s)
theorem s_back {Q : Int → Ii → Jj → Prop} (h2 : Tl 350 (I 2)) (h5 : Tl 350 (I 5)) (h7 : TlJ 14 (J 7)) (h9 : TlJ 14 (J 9)) (hq : ∀ (I' : Ii) (J' : Jj), I' 2 = I 5 → J' 7 = J 9 → (∀ k, k ≠ 2 → I' k = I k) → (∀ k, k ≠ 7 → J' k = J k) → Q 0 I' J') : ∃ n : Nat, L_X12_readText_73 Q n 0 I J := by
  refine ⟨351, loopN (L := fun n (a : Ii) v => L_X12_readText_73 Q n v a J) (fun v a => a 2 = cpP (I 5) (I 2) v ∧ ∀ k, k ≠ 2 → a k = I k) (N := 350) (fun n v a hv ha k => ?_) 351 0 I (by omega) (by omega) ⟨by rw [cpP_zero], fun _ _ => rfl⟩⟩
  refine ls_X12_readText_73 ?_
  unfold Lb_X12_readText_73
  refine ⟨rgK (by omega), fun c => ?_, fun c => ⟨by omega, by omega, fun I1 e => k (by omega) _ ⟨?_, fun k' hk' => ?_⟩⟩⟩
  · have e2 : a 2 = I 5 := by rw [ha.1, show v = 350 by omega, cpP_all h5 h2]
    refine ⟨15, loopN (L := fun n (b : Jj) v => L_X12_readText_100 Q n v a b) (fun v b => b 7 = cpP (J 9) (J 7) v ∧ ∀ k, k ≠ 7 → b k = J k) (N := 14) (fun n v b hv hb k => ?_) 15 0 J (by omega) (by omega) ⟨by rw [cpP_zero], fun _ _ => rfl⟩⟩
    refine ls_X12_readText_100 ?_
    unfold Lb_X12_readText_100
    refine ⟨rgK (by omega), fun c => hq a b e2 (by rw [hb.1, show v = 14 by omega, cpP_allJ h9 h7]) ha.2 hb.2, fun c => ⟨by omega, by omega, fun J21 e => k (by omega) _ ⟨?_, fun k' hk' => ?_⟩⟩⟩
    · show J21 7 = _
      rw [e, up2_row, hb.1, hb.2 9 (by omega), cpP_succ, show (v : Int).toNat = v by omega]
    · show J21 k' = _
      rw [e, up2_key hk']; exact hb.2 k' hk'
  · show I1 2 = _
    rw [e, up2_row, ha.1, ha.2 5 (by omega), cpP_succ, show (v : Int).toNat = v by omega]
  · show I1 k' = _
    rw [e, up2_key hk']; exact ha.2 k' hk'
theorem s_readText (h : I 0 2 = (E : Int)) (hE : E ≤ 800) (hb : ∀ i, i < E → 0 ≤ I 1 i ∧ I 1 i ≤ 255) (h2 : Tl 350 (I 2)) (h5 : Tl 350 (I 5)) (h7 : TlJ 14 (J 7)) (h9 : TlJ 14 (J 9)) : wp_X12_readText I J (fun r I' J' => PO (txt (I 1) E (E + 1) (Z1, J 7, 0, 0)) (fun c s => r = 0 ∧ I' 0 0 = 1 ∧ I' 0 11 = c ∧ I' 0 12 = (s : Int) ∧ I' 0 13 = 0 ∧ I' 2 = I 2 ∧ J' 7 = J 7 ∧ I' 0 23 = I 0 23) (fun u => r = u.1 0 ∧ I' 0 0 = 0 ∧ I' 0 11 = 0 ∧ I' 0 12 = -1 ∧ I' 0 13 = -1 ∧ I' 2 = u.1 ∧ J' 7 = u.2.1 ∧ I' 0 23 = 0) ∧ I' 0 2 = 0 ∧ Tl 350 (I' 2) ∧ TlJ 14 (J' 7) ∧ Tl 350 (I' 5) ∧ TlJ 14 (J' 9)) := by
  refine fr_X12_beginsText (s_beginsText h hE rfl hb) (fun I1 J1 q1 s1 => ?_)
  have k2 : I1 2 = I 2 := s1.k
  have k5 : I1 5 = I 5 := s1.k
  have k7 : J1 7 = J 7 := s1.kJ
  have k9 : J1 9 = J 9 := s1.kJ
  refine fr_X12_laysAside (s_laysAside (by rw [k2]; exact h2) (by rw [k5]; exact h5)) (fun I2 J2 q2 s2 => ?_)
  have m2 : I2 2 = I 2 := s2.k.trans k2
  have m7 : J2 7 = J 7 := s2.kJ.trans k7
  have m9 : J2 9 = J 9 := s2.kJ.trans k9
  have m5 : I2 5 = I 2 := q2.trans k2
  have l2 : LX (I 1) E 0 0 I2 J2 := q1.1.cong (fun i _ _ => s2.i) s2.i s2.k s2.iJ
  have f2 : I2 0 2 = 0 := s2.i.trans q1.2
  have f23 : I2 0 23 = I 0 23 := s2.i.trans s1.i
  clear q1 s1 q2 s2
  refine ⟨15, loopN (L := fun n (b : Jj) v => L_X12_readText_10 _ n v I2 b) (fun v b => b 9 = cpP (J 7) (J 9) v ∧ ∀ k, k ≠ 9 → b k = J2 k) (N := 14) (fun n v b hv hb' k => ?_) 15 0 J2 (by omega) (by omega) ⟨by rw [cpP_zero]; exact m9, fun _ _ => rfl⟩⟩
  refine ls_X12_readText_10 ?_
  unfold Lb_X12_readText_10
  refine ⟨rgK (by omega), fun c => ?_, fun c => ⟨by omega, by omega, fun J8 e => k (by omega) _ ⟨?_, fun k' hk' => ?_⟩⟩⟩
  · have b9 : b 9 = J 7 := by rw [hb'.1, show v = 14 by omega, cpP_allJ h7 h9]
    have b7 : b 7 = J 7 := (hb'.2 7 (by omega)).trans m7
    refine fr_X12_clears s_clears (fun I4 J4 q4 s4 => ?_)
    rw [m2] at q4
    have z4 : I4 2 = Z1 := by
      rw [q4]
      unfold Z1
      rw [cpP_all (fun _ _ => rfl) h2]
    intro I5 e5
    have g5 : I5 5 = I 2 := by rw [e5, up2_key (by omega)]; exact s4.k.trans m5
    have g9 : J4 9 = J 7 := s4.kJ.trans b9
    have g2 : I5 0 2 = 0 := by rw [e5, up2_ne (by omega)]; exact s4.i.trans f2
    have g23 : I5 0 23 = I 0 23 := by rw [e5, up2_ne (by omega)]; exact s4.i.trans f23
    have k40 : I4 0 = I2 0 := s4.k
    have j40 : J4 0 = b 0 := s4.kJ
    have l5 : LX (I 1) E 0 0 I5 J4 := l2.cong (fun i a b => by rw [e5, up2_ne (by omega), k40]) (by rw [e5, up2_ne (by omega), k40]) (by rw [e5, up2_key (by omega)]; exact s4.k) (by rw [j40, hb'.2 0 (by omega)])
    have hR : RT (I 1) E (Z1, J 7, 0, 0) I5 J4 := ⟨l5, by rw [e5, up2_key (by omega)]; exact z4, s4.kJ.trans b7, by rw [e5, up2_self]; rfl, Z1_Tl, h7⟩
    have hS : PSt E (Z1, J 7, 0, 0) := Z1_Z0.PSt
    have hP := txt_PO (B := I 1) (f := E + 1) hS
    refine ⟨E + 1, s_readL (E + 1) (Z1, J 7, 0, 0) I5 J4 hS hR (by show E + 1 ≤ 0 + (E + 1); omega) (Same.rf _ _) (fun I6 J6 q6 s6 => ?_)⟩
    have w5 : I6 5 = I 2 := s6.k.trans g5
    have w9 : J6 9 = J 7 := s6.kJ.trans g9
    have w2 : I6 0 2 = 0 := s6.i.trans g2
    have w23 : I6 0 23 = I 0 23 := s6.i.trans g23
    cases hx : txt (I 1) E (E + 1) (Z1, J 7, 0, 0) with
    | error e =>
      rw [hx] at q6 hP
      obtain ⟨q6, t2, t7⟩ : RF e.1 e.2 0 I6 ∧ Tl 350 (I6 2) ∧ TlJ 14 (J6 7) := q6
      obtain ⟨qc, q8, q9, q10⟩ := q6
      refine ends_of q8 (by omega) (fun I12 c0 c11 c12 c13 s12 => ⟨fun z => absurd (if_neg (by omega)) z, fun _ => ?_⟩)
      rw [if_neg (by omega)] at c0
      refine s_back (by rw [s12.k]; exact t2) (by rw [s12.k, w5]; exact h2) t7 (by rw [w9]; exact h7) (fun I' J' p2 p7 pk pj => ⟨⟨rfl, ?_, ?_, ?_, ?_, ?_, ?_, ?_⟩, ?_, ?_, ?_, ?_, ?_⟩)
      · rw [pk 0 (by omega)]; exact c0
      · rw [pk 0 (by omega)]; exact c11
      · rw [pk 0 (by omega)]; exact c12.trans q9
      · rw [pk 0 (by omega)]; exact c13.trans q10
      · rw [p2, s12.k, w5]
      · rw [p7, w9]
      · rw [pk 0 (by omega)]; exact s12.i.trans w23
      · rw [pk 0 (by omega)]; exact s12.i.trans w2
      · rw [p2, s12.k, w5]; exact h2
      · rw [p7, w9]; exact h7
      · rw [pk 5 (by omega), s12.k, w5]; exact h2
      · rw [pj 9 (by omega), w9]; exact h7
    | ok u =>
      rw [hx] at q6
      obtain ⟨lu, u2, u7, -, ut, utJ⟩ : RT (I 1) E u I6 J6 := q6
      refine ends_of lu.1 (by omega) (fun I12 c0 c11 c12 c13 s12 => ⟨fun _ I13 e13 => ?_, fun z => absurd (if_pos rfl) (by rw [z]; decide)⟩)
      rw [if_pos rfl] at c0
      have ek : ∀ k, k ≠ 0 → I13 k = I12 k := fun k a => by rw [e13, up2_key a]
      have e0 : ∀ i, i ≠ 23 → I13 0 i = I12 0 i := fun i a => by rw [e13, up2_ne (by omega)]
      have r2 : I13 2 = u.1 := by rw [ek 2 (by omega), s12.k]; exact u2
      refine ⟨⟨by rw [r2], ?_, ?_, ?_, ?_, r2, u7, ?_⟩, ?_, ?_, ?_, ?_, ?_⟩
      · rw [e0 0 (by omega)]; exact c0
      · rw [e0 11 (by omega)]; exact c11
      · rw [e0 12 (by omega)]; exact c12.trans lu.2.1
      · rw [e0 13 (by omega)]; exact c13.trans lu.2.2.1
      · rw [e13, up2_self]
      · rw [e0 2 (by omega)]; exact s12.i.trans w2
      · rw [r2]; exact ut
      · rw [u7]; exact utJ
      · rw [ek 5 (by omega), s12.k, w5]; exact h2
      · rw [w9]; exact h7
  · show J8 9 = _
    rw [e, up2_row, hb'.1, hb'.2 7 (by omega), m7, cpP_succ, show (v : Int).toNat = v by omega]
  · show J8 k' = _
    rw [e, up2_key hk']; exact hb'.2 k' hk'
end RTX
