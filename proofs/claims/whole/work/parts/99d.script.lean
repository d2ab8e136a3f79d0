/-! ===== runScript of both ===== -/
/-- nothing has been read yet -/
def S0 : Sc := (fun _ => 0, fun _ => 0, fun _ => 0, 0, 0, 0, 0, fun _ => 0)
def l0Z : Nat → Int := fun _ => 0
theorem S0_WF {B : Nat → Int} {E : Nat} {nm : Nat → Int64} {σ : Nat → Int} {f : Nat} (hM : MS σ) : PO2 (scr B E nm (σ 0).toNat f S0) (fun c _ _ => 1 ≤ c ∧ c ≤ 6) (fun t => goW σ t ∧ t.2.2.2.2.2.1 = 0 ∧ t.2.2.2.1 ≤ 60) :=
  scr_WF hM ⟨rfl, fun j hj => absurd hj (Nat.not_lt_zero _), fun i hi => absurd hi (Nat.not_lt_zero _)⟩ ⟨by omega, by omega, by omega, Nat.zero_le _⟩
theorem HR_same {I I' : Ii} {u nw : Nat} {pf : Nat → Nat → Int} (h : HR I u nw pf) (e : I' 111 = I 111) (ek : ∀ m, m < 6 → I' (330 + 10 * m) = I (330 + 10 * m) ∧ I' (330 + 10 * m + 1) = I (330 + 10 * m + 1) ∧ I' (330 + 10 * m + 2) = I (330 + 10 * m + 2) ∧ I' (330 + 10 * m + 3) = I (330 + 10 * m + 3) ∧ I' (330 + 10 * m + 4) = I (330 + 10 * m + 4)) : HR I' u nw pf := by
  obtain ⟨h1, h2, h3, h4, h5⟩ := h
  refine ⟨by rw [e]; exact h1, by rw [e]; exact h2, h3, h4, fun j hj => ?_⟩
  obtain ⟨a0, a1, a2, a3, a4⟩ := ek ((nw + 6 - j) % 6) (Nat.mod_lt _ (by omega))
  exact (h5 j hj).cong a0 a1 a2 a3 a4
/-- what the history is behind a change -/
def HN (I : Ii) (u : Nat) (pf : Nat → Nat → Int) (σ : Nat → Int) : Prop := ∃ nw', (u < 6 → ∀ pf', (∀ i, i < u → pf' i = pf i) → pf' u = σ → HR I (u + 1) nw' pf') ∧ (u = 6 → ∀ pf', (∀ i, i < 5 → pf' i = pf (i + 1)) → pf' 5 = σ → HR I 6 nw' pf')
section RNS
variable {I : Ii} {J : Jj} {B : Nat → Int} {E : Nat} {σ : Nat → Int} {nm : Nat → Int64}
theorem c_runScript {u nw : Nat} {pf : Nat → Nat → Int} {t : Sc} (hV : VS σ) (hd : ND nm (σ 0).toNat) (hR : RG 200 I J σ nm) (hS : RS 300 I σ) (hH : HR I u nw pf) (h1 : I 101 1 = (E : Int)) (hB : ∀ i, i < E → I 102 i = B i) (hE : E ≤ 800) (hb : ∀ i, i < E → 0 ≤ B i ∧ B i ≤ 255) (h6 : σ 6 + 5000 ≤ 1000000000) (hx : scr B E nm (σ 0).toNat (E + 1) S0 = .ok t) :
    wp_X11_runScript I J (fun r I' J' => ∃ (de : Nat) (τ : Nat → Int), RUN t.1 t.2.1 t.2.2.1 t.2.2.2.1 24001 0 l0Z 0 σ de τ ∧ r = (de : Int) ∧ RS 300 I' τ ∧ VS τ ∧ RG 200 I' J' τ nm ∧ τ 6 ≤ σ 6 + 3960 ∧ HN I' u pf σ ∧ I' 101 1 = 0 ∧ I' 101 9 = 0 ∧ I' 101 10 = -1 ∧ I' 101 11 = -1) := by
  have hW := S0_WF (B := B) (E := E) (nm := nm) (σ := σ) (f := E + 1) hV.M
  rw [hx] at hW
  obtain ⟨hW, hd0, hn⟩ : goW σ t ∧ t.2.2.2.2.2.1 = 0 ∧ t.2.2.2.1 ≤ 60 := hW
  refine fr_X10_begin (c_begin h1 hB hE hb) (fun I1 J1 q1 s1 => ?_)
  obtain ⟨q1, p1, -⟩ := q1
  have hR1 := hR.fr s1
  have hS1 := hS.fr s1
  have hm1 : ∀ m, m < 6 → I1 (330 + 10 * m) = I (330 + 10 * m) ∧ I1 (330 + 10 * m + 1) = I (330 + 10 * m + 1) ∧ I1 (330 + 10 * m + 2) = I (330 + 10 * m + 2) ∧ I1 (330 + 10 * m + 3) = I (330 + 10 * m + 3) ∧ I1 (330 + 10 * m + 4) = I (330 + 10 * m + 4) := by
    intro m hm
    have : m = 0 ∨ m = 1 ∨ m = 2 ∨ m = 3 ∨ m = 4 ∨ m = 5 := by omega
    rcases this with rfl | rfl | rfl | rfl | rfl | rfl <;> exact ⟨s1.k, s1.k, s1.k, s1.k, s1.k⟩
  have hH1 : HR I1 u nw pf := HR_same hH s1.k hm1
  refine fr_X7_read (c_readScript (K := fun _ => 0) (A := fun _ => 0) (C := fun _ => 0) (O := fun _ => 0) hV.M hd hR1 q1) (fun v2 I2 J2 h2 s2 => ?_)
  have h2' : CQF (scr B E nm (σ 0).toNat (E + 1) S0) v2 I2 := h2
  rw [hx] at h2'
  obtain ⟨hv, ⟨n9, n10, n11⟩, hC⟩ : v2 = 1 ∧ (I2 101 9 = 0 ∧ I2 101 10 = -1 ∧ I2 101 11 = -1) ∧ CC t.1 t.2.1 t.2.2.1 t.2.2.2.1 t.2.2.2.2.1 t.2.2.2.2.2.1 t.2.2.2.2.2.2.2 I2 := h2'
  have hR2 := hR1.fr s2
  have hS2 := hS1.fr s2
  have hm2 : ∀ m, m < 6 → I2 (330 + 10 * m) = I1 (330 + 10 * m) ∧ I2 (330 + 10 * m + 1) = I1 (330 + 10 * m + 1) ∧ I2 (330 + 10 * m + 2) = I1 (330 + 10 * m + 2) ∧ I2 (330 + 10 * m + 3) = I1 (330 + 10 * m + 3) ∧ I2 (330 + 10 * m + 4) = I1 (330 + 10 * m + 4) := by
    intro m hm
    have : m = 0 ∨ m = 1 ∨ m = 2 ∨ m = 3 ∨ m = 4 ∨ m = 5 := by omega
    rcases this with rfl | rfl | rfl | rfl | rfl | rfl <;> exact ⟨s2.k, s2.k, s2.k, s2.k, s2.k⟩
  have hH2 : HR I2 u nw pf := HR_same hH1 s2.k hm2
  refine ⟨fun _ => ?_, fun z => by omega⟩
  refine fr_X3_keep (c_keep hV hS2 hH2) (fun I3 J3 h3 s3 => ?_)
  have hR3 := hR2.fr s3
  have hS3 := hS2.fr s3
  have hD3 : CD t.1 t.2.1 t.2.2.1 t.2.2.2.1 I3 := CD.cong ⟨hC.1, hC.2.2.1⟩ s3.k s3.k s3.k s3.k
  have tb := trn_0 (K := t.1) (n := t.2.2.2.1) (l := l0Z)
  have hrun : wp_X11_runCommands I3 J3 (fun r I' J' => ∃ (de : Nat) (τ : Nat → Int), RUN t.1 t.2.1 t.2.2.1 t.2.2.2.1 24001 0 l0Z 0 σ de τ ∧ r = (de : Int) ∧ RS 300 I' τ ∧ VS τ ∧ RG 200 I' J' τ nm ∧ τ 6 ≤ σ 6 + 3960) :=
    ⟨24001, c_runsL (nm := nm) (M := σ 6 + 3960) hn (by omega) 24001 0 l0Z 0 σ 0 I3 J3 (by omega) (by omega) hW.2.2 hV (by omega) hR3 hS3 hD3 (by omega) (Nat.zero_le _) (fun j hj => absurd hj (Nat.not_lt_zero _)) (fun de τ I' J' a1 a2 a3 a4 a5 => ⟨de, τ, a1, rfl, a2, a3, a4, a5⟩)⟩
  refine fr_X11_runCommands hrun (fun r I4 J4 h4 s4 => ?_)
  obtain ⟨de, τ, a1, a2, a3, a4, a5, a6⟩ := h4
  have hm4 : ∀ m, m < 6 → I4 (330 + 10 * m) = I3 (330 + 10 * m) ∧ I4 (330 + 10 * m + 1) = I3 (330 + 10 * m + 1) ∧ I4 (330 + 10 * m + 2) = I3 (330 + 10 * m + 2) ∧ I4 (330 + 10 * m + 3) = I3 (330 + 10 * m + 3) ∧ I4 (330 + 10 * m + 4) = I3 (330 + 10 * m + 4) := by
    intro m hm
    have : m = 0 ∨ m = 1 ∨ m = 2 ∨ m = 3 ∨ m = 4 ∨ m = 5 := by omega
    rcases this with rfl | rfl | rfl | rfl | rfl | rfl <;> exact ⟨s4.k, s4.k, s4.k, s4.k, s4.k⟩
  have m4 : I4 111 = I3 111 := s4.k
  obtain ⟨nw', g1, g2⟩ := h3
  refine ⟨de, τ, a1, a2, a3, a4, a5, a6, ⟨nw', fun hu pf' e1 e2 => HR_same (g1 hu pf' e1 e2) m4 hm4, fun hu pf' e1 e2 => HR_same (g2 hu pf' e1 e2) m4 hm4⟩, ?_, ?_, ?_, ?_⟩
  · rw [← p1]; exact s4.i.trans (s3.i.trans s2.i)
  · rw [← n9]; exact s4.i.trans s3.i
  · rw [← n10]; exact s4.i.trans s3.i
  · rw [← n11]; exact s4.i.trans s3.i
theorem s_runScript {u : Nat} {de : Nat} {τ : Nat → Int} (h : I 0 2 = (E : Int)) (hE : E ≤ 800) (hb : ∀ i, i < E → 0 ≤ I 1 i ∧ I 1 i ≤ 255) (hV : VS (I 2)) (h2 : Tl 350 (I 2)) (h5 : Tl 350 (I 5)) (hu : I 0 23 = (u : Int)) (hu6 : u ≤ 6) (h6 : I 2 6 + 5000 ≤ 1000000000)
    (hrun : ∀ t, scr (I 1) E (J 7) (I 2 0).toNat (E + 1) S0 = .ok t → RUN t.1 t.2.1 t.2.2.1 t.2.2.2.1 24001 0 l0Z 0 (I 2) de τ) :
    wp_X12_runScript I J (fun r I' J' => PO2 (scr (I 1) E (J 7) (I 2 0).toNat (E + 1) S0) (fun c s d => r = 0 ∧ I' 0 0 = 1 ∧ I' 0 11 = c ∧ I' 0 12 = (s : Int) ∧ I' 0 13 = (d : Int) ∧ I' 2 = I 2 ∧ I' 0 23 = I 0 23 ∧ I' 4 = I 4 ∧ I' 5 = I 5) (fun _ => r = (de : Int) ∧ I' 0 0 = 0 ∧ I' 0 11 = 0 ∧ I' 0 12 = -1 ∧ I' 0 13 = -1 ∧ I' 2 = τ ∧ I' 5 = I 2 ∧ (u < 6 → I' 0 23 = (u : Int) + 1 ∧ seg (I' 4) u = I 2 ∧ ∀ i, i < u → seg (I' 4) i = seg (I 4) i) ∧ (u = 6 → I' 0 23 = 6 ∧ seg (I' 4) 5 = I 2 ∧ ∀ i, i < 5 → seg (I' 4) i = seg (I 4) (i + 1))) ∧ I' 0 2 = 0) := by
  have hW := S0_WF (B := I 1) (E := E) (nm := J 7) (σ := I 2) (f := E + 1) hV.M
  refine fr_X12_beginsText (s_beginsText h hE rfl hb) (fun I1 J1 q1 s1 => ?_)
  have k2 : I1 2 = I 2 := s1.k
  have k4 : I1 4 = I 4 := s1.k
  have k5 : I1 5 = I 5 := s1.k
  have k7 : J1 7 = J 7 := s1.kJ
  have k23 : I1 0 23 = I 0 23 := s1.i
  intro I2 e2 I3 e3
  have ek : ∀ k, k ≠ 0 → I3 k = I1 k := fun k a => by rw [e3, up2_key a, e2, up2_key a]
  have e0 : ∀ i, i ≠ 41 → i ≠ 42 → I3 0 i = I1 0 i := fun i a b => by rw [e3, up2_ne (by omega), e2, up2_ne (by omega)]
  have hL : LX (I 1) E 0 0 I3 J1 := q1.1.cong (fun i _ _ => e0 i (by omega) (by omega)) (e0 43 (by omega) (by omega)) (ek 1 (by omega)) rfl
  have hX : SX (fun _ => 0) (fun _ => 0) (fun _ => 0) 0 0 I3 := ⟨by rw [e3, up2_ne (by omega), e2, up2_self]; rfl, by rw [e3, up2_self]; rfl, fun i hi => absurd hi (Nat.not_lt_zero _)⟩
  have r2 : I3 2 = I 2 := (ek 2 (by omega)).trans k2
  refine ⟨E + 1, s_scrL (σ := I 2) (nm := J 7) (x := scr (I 1) E (J 7) (I 2 0).toNat (E + 1) S0) (I0 := I3) (J0 := J1) hV.M r2 k7 (fun I6 J6 hz s6 => ?_) (E + 1) (E + 1) _ _ _ 0 0 0 0 (fun _ => 0) I3 J1 (by omega) rfl (by omega) ⟨by omega, by omega, by omega, Nat.zero_le _⟩ (fun z => absurd z.2 (Nat.lt_irrefl 0)) hL hX (Same.rf _ _)⟩
  have w2 : I6 2 = I 2 := s6.k.trans r2
  have w4 : I6 4 = I 4 := s6.k.trans ((ek 4 (by omega)).trans k4)
  have w5 : I6 5 = I 5 := s6.k.trans ((ek 5 (by omega)).trans k5)
  have w23 : I6 0 23 = I 0 23 := s6.i.trans ((e0 23 (by omega) (by omega)).trans k23)
  have wf : I6 0 2 = 0 := s6.i.trans ((e0 2 (by omega) (by omega)).trans q1.2)
  cases hx : scr (I 1) E (J 7) (I 2 0).toNat (E + 1) S0 with
  | error e =>
    rw [hx] at hz hW
    obtain ⟨qc, q8, q9, q10⟩ : RF e.1 e.2.1 e.2.2 I6 := hz
    refine ends_of q8 (by omega) (fun I12 c0 c11 c12 c13 s12 => ⟨fun z => absurd (if_neg (by omega)) z, fun _ => ?_⟩)
    rw [if_neg (by omega)] at c0
    exact ⟨⟨rfl, c0, c11, c12.trans q9, c13.trans q10, s12.k.trans w2, s12.i.trans w23, s12.k.trans w4, s12.k.trans w5⟩, s12.i.trans wf⟩
  | ok t =>
    rw [hx] at hz hW
    have hR := hrun t hx
    obtain ⟨z8, z9, z10, zX⟩ : I6 0 8 = 0 ∧ I6 0 9 = -1 ∧ I6 0 10 = -1 ∧ SX t.1 t.2.1 t.2.2.1 t.2.2.2.1 t.2.2.2.2.1 I6 := hz
    obtain ⟨hWF, -, hn⟩ : goW (I 2) t ∧ t.2.2.2.2.2.1 = 0 ∧ t.2.2.2.1 ≤ 60 := hW
    refine ends_of z8 (by omega) (fun I12 c0 c11 c12 c13 s12 => ⟨fun _ => ?_, fun z => absurd (if_pos rfl) (by rw [z]; decide)⟩)
    rw [if_pos rfl] at c0
    have y2 : I12 2 = I 2 := s12.k.trans w2
    have y4 : I12 4 = I 4 := s12.k.trans w4
    have y5 : I12 5 = I 5 := s12.k.trans w5
    refine fr_X12_laysAside (s_laysAside (by rw [y2]; exact h2) (by rw [y5]; exact h5)) (fun I15 J15 q15 s15 => ?_)
    have x2 : I15 2 = I 2 := s15.k.trans y2
    have x4 : I15 4 = I 4 := s15.k.trans y4
    have x5 : I15 5 = I 2 := q15.trans y2
    have x0 : I15 0 = I12 0 := s15.k
    have hX15 : SX t.1 t.2.1 t.2.2.1 t.2.2.2.1 t.2.2.2.2.1 I15 := zX.cong (by rw [x0]; exact s12.i) (by rw [x0]; exact s12.i) (s15.k.trans s12.k) (s15.k.trans s12.k) (s15.k.trans s12.k)
    have hrw : wp_X12_runs I15 J15 (fun r I' _ => r = (de : Int) ∧ I' 2 = τ) := ⟨24002, s_runsL (w := t.2.2.2.2.1) hn 24001 0 l0Z 0 (I 2) I15 J15 hR hWF.2.2 hV (by omega) x2 hX15 (by omega) (Nat.zero_le _) (fun j hj => absurd hj (Nat.not_lt_zero _))⟩
    refine fr_X12_runs hrw (fun r I16 J16 h16 s16 => ?_)
    have v5 : I16 5 = I 2 := s16.k.trans x5
    have v4 : I16 4 = I 4 := s16.k.trans x4
    have v23 : I16 0 23 = (u : Int) := (s16.i.trans (by rw [x0]; exact s12.i.trans w23)).trans hu
    have e11 : I16 0 11 = 0 := s16.i.trans (by rw [x0]; exact c11)
    have e12 : I16 0 12 = -1 := s16.i.trans (by rw [x0]; exact c12.trans z9)
    have e13 : I16 0 13 = -1 := s16.i.trans (by rw [x0]; exact c13.trans z10)
    have e00 : I16 0 0 = 0 := s16.i.trans (by rw [x0]; exact c0)
    have e02 : I16 0 2 = 0 := s16.i.trans (by rw [x0]; exact s12.i.trans wf)
    refine fr_X12_keeps (s_keeps v23 hu6 (by rw [v5]; exact h2)) (fun I17 J17 h17 s17 => ?_)
    rw [v5, v4] at h17
    exact ⟨⟨h16.1, s17.i.trans e00, s17.i.trans e11, s17.i.trans e12, s17.i.trans e13, s17.k.trans h16.2, s17.k.trans v5, h17.1, h17.2⟩, s17.i.trans e02⟩
end RNS
