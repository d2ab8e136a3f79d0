/-! ===== a whole text: the class ===== -/
theorem txt_0 {B : Nat → Int} {E f : Nat} {t : St} (h : tK B E t.2.2.2 = 0) : txt B E (f + 1) t = .ok t := by
  show (if tK B E t.2.2.2 = 0 then Except.ok t else _) = _
  rw [if_pos h]
theorem txt_e {B : Nat → Int} {E f : Nat} {t : St} {e : Int × Nat} (h : tK B E t.2.2.2 ≠ 0) (h2 : stm B E t = .error e) : txt B E (f + 1) t = .error e := by
  unfold txt
  rw [if_neg h, h2]
theorem txt_s {B : Nat → Int} {E f : Nat} {t t' : St} (h : tK B E t.2.2.2 ≠ 0) (h2 : stm B E t = .ok t') : txt B E (f + 1) t = txt B E f t' := by
  show (if tK B E t.2.2.2 = 0 then _ else _) = _
  rw [if_neg h, h2]
/-- what the class answers of a text -/
def CQ2 (x : Except (Int × Nat) St) (r : Int) (I : Ii) (J : Jj) : Prop := PO x (fun c s => r = 0 ∧ CE c s 0 I) (fun u => r = 1 ∧ RG 210 I J u.1 u.2.1 ∧ I 210 4 = u.1 4 ∧ I 101 9 = 0 ∧ I 101 10 = -1 ∧ I 101 11 = -1)
section CRD
variable {I : Ii} {J : Jj} {B : Nat → Int} {E : Nat}
theorem c_readL : ∀ (f : Nat) (t : St) (c : Nat) (I : Ii) (J : Jj), PSt E t → CS B E t I J → E + 1 ≤ t.2.2.2 + f → c ≤ t.2.2.2 → L_X9_read_11 210 (CQ2 (txt B E f t)) f (c : Int) I J
  | 0, t, c, I, J, hS, hC, h1, h2 => by have := hS.2.2.2; omega
  | f + 1, t, c, I, J, hS, hC, h1, h2 => by
    have hE := hC.1.2.2.2.2.2.1
    have hp := hS.2.2.2
    have kb := tK_b (B := B) (E := E) (p := t.2.2.2)
    refine ls_X9_read_11 ?_
    unfold Lb_X9_read_11
    refine ⟨rgK (by omega), fun d => by omega, fun _ => fr_X10_advance (c_advanceT hC.1) (fun I4 J4 q s4 => ?_)⟩
    obtain ⟨q1, q2, q3, q4, q5⟩ := q
    have hC4 : CS B E (t.1, t.2.1, t.2.2.1, tE B E t.2.2.2) I4 J4 := ⟨q1, hC.2.1.fr s4, by show I4 210 4 = t.1 4; rw [← hC.2.2.1]; exact s4.i, by show I4 103 0 = (t.2.2.1 : Int); rw [← hC.2.2.2]; exact s4.i⟩
    refine ⟨rgK (by omega), fun d => ?_, fun d => ?_⟩
    · rw [q3] at d
      have hP := stb_PO hS d
      refine fr_X9_readStatement (c_statement hS d hC4 q2 q3 q4) (fun v I6 J6 h6 s6 => ?_)
      cases hx : stb B E t with
      | error e =>
        rw [hx] at h6
        have e1 : stm B E t = .error e := by unfold stm; rw [hx]
        rw [txt_e d e1]
        exact ⟨fun _ => ⟨rfl, h6.2⟩, fun z => absurd h6.1 z⟩
      | ok u =>
        rw [hx] at h6 hP
        have e1 : stm B E t = semi B E u := by unfold stm; rw [hx]
        obtain ⟨hv, hC6⟩ : v = 1 ∧ CS B E u I6 J6 := h6
        refine ⟨fun z => by omega, fun _ => takes_of hC6.1 (by decide) (fun k7 I7 J7 t7 q7 _ s7 => ⟨fun _ => ?_, fun z => absurd z (by decide)⟩) (fun k7 I7 J7 t7 _ => ⟨fun z => absurd rfl z, fun _ => ?_⟩)⟩
        · have e2 : semi B E u = .ok (u.1, u.2.1, u.2.2.1, tE B E u.2.2.2) := by unfold semi; rw [if_pos k7]
          rw [e2] at e1
          rw [txt_s d e1]
          have b1 := tE_b (B := B) hP.1.2.2.2
          have hp2 := hP.2
          have := c_readL f (u.1, u.2.1, u.2.2.1, tE B E u.2.2.2) (c + 1) I7 J7 ⟨hP.1.1, hP.1.2.1, hP.1.2.2.1, b1.2.1⟩ ⟨t7, hC6.2.1.fr s7, by show I7 210 4 = u.1 4; rw [← hC6.2.2.1]; exact s7.i, by show I7 103 0 = (u.2.2.1 : Int); rw [← hC6.2.2.2]; exact s7.i⟩ (by show E + 1 ≤ tE B E u.2.2.2 + f; omega) (by show c + 1 ≤ tE B E u.2.2.2; omega)
          rwa [show (((c + 1 : Nat)) : Int) = (c : Int) + 1 by omega] at this
        · have e2 : semi B E u = .error (1, tS B E u.2.2.2) := by unfold semi; rw [if_neg k7]
          rw [e2] at e1
          rw [txt_e d e1]
          exact ⟨rfl, t7⟩
    · rw [q3] at d
      rw [txt_0 d]
      exact ⟨rfl, hC4.2.1, hC4.2.2.1, q1.2.2.2.2.2.2.2⟩
/-- an empty row -/
def Z0 (σ : Nat → Int) : Prop := ∀ i, i < 350 → σ i = if i = 2 then 2 else 0
theorem Z0.PS {σ : Nat → Int} (h : Z0 σ) : PS σ := by
  have z : ∀ i, i < 350 → i ≠ 2 → σ i = 0 := fun i a b => by rw [h i a, if_neg b]
  have z2 : σ 2 = 2 := by rw [h 2 (by decide), if_pos rfl]
  refine ⟨⟨by rw [z 0 (by omega) (by omega)]; omega, by rw [z 1 (by omega) (by omega)]; omega, by rw [z2]; omega, by rw [z 3 (by omega) (by omega)]; omega, by rw [z 4 (by omega) (by omega)]; omega, by rw [z 5 (by omega) (by omega)]; omega, by rw [z 6 (by omega) (by omega)]; omega, fun v hv => by rw [z (7 + v) (by omega) (by omega)]; omega, fun v hv => by rw [z (21 + v) (by omega) (by omega)]; omega, fun v hv => by rw [z (35 + v) (by omega) (by omega)]; omega, fun v hv => by rw [z (105 + v) (by omega) (by omega)]; omega, fun v hv => by rw [z (110 + v) (by omega) (by omega)]; omega, fun v hv => by rw [z (150 + v) (by omega) (by omega)]; omega, fun v hv => by rw [z (190 + v) (by omega) (by omega)]; omega, fun v hv => by rw [z (230 + v) (by omega) (by omega)]; omega⟩,
    ⟨fun e he => by rw [z 1 (by omega) (by omega)] at he; exact absurd he (Nat.not_lt_zero _), fun e f he _ => by rw [z 1 (by omega) (by omega)] at he; exact absurd he (Nat.not_lt_zero _)⟩, z 5 (by omega) (by omega), z 6 (by omega) (by omega), by rw [z 105 (by omega) (by omega), z 0 (by omega) (by omega)], fun v hv => z (21 + v) (by omega) (by omega), fun v hv => by rw [z 0 (by omega) (by omega)] at hv; exact absurd hv (Nat.not_lt_zero _)⟩
theorem Z0.PSt {σ : Nat → Int} {nm : Nat → Int64} (h : Z0 σ) : PSt E (σ, nm, 0, 0) := by
  refine ⟨h.PS, ?_, Nat.succ_pos 7, Nat.zero_le _⟩
  show ND nm (σ 0).toNat
  rw [h 0 (by decide)]
  intro u v hu
  exact absurd hu (Nat.not_lt_zero _)
theorem c_read {σ : Nat → Int} {nm : Nat → Int64} (hz : Z0 σ) (hC : CT B E 0 0 I) : wp_X9_read 210 I J (CQ2 (txt B E (E + 1) (σ, nm, 0, 0))) := by
  have gk : gK 210 := Or.inr (Or.inl rfl)
  refine ⟨gk, gk, ?_⟩
  intro I1 e1 I2 e2 I3 e3 I4 e4 I5 e5 I6 e6 I7 e7 I8 e8
  have ek : ∀ k, k ≠ 210 → k ≠ 103 → I8 k = I k := fun k a b => by rw [e8, up2_key b, e7, up2_key a, e6, up2_key a, e5, up2_key a, e4, up2_key a, e3, up2_key a, e2, up2_key a, e1, up2_key a]
  have z : ∀ i, i < 350 → i ≠ 2 → σ i = 0 := fun i a b => by rw [hz i a, if_neg b]
  have z0 := z 0 (by decide) (by decide)
  have z1 := z 1 (by decide) (by decide)
  have ef : ∀ i, I8 210 i = I7 210 i := fun i => by rw [e8, up2_ne (by omega)]
  refine ⟨E + 1, c_readL (E + 1) (σ, nm, 0, 0) 0 I8 J hz.PSt ⟨hC.same (ek 101 (by omega) (by omega)) (ek 102 (by omega) (by omega)), ⟨?_, ?_, ?_, ?_, ?_, ?_, fun v hv => ?_, fun v hv => ?_, fun v hv => ?_, fun v hv => ?_, fun v hv => ?_⟩, ?_, ?_⟩ (by show E + 1 ≤ 0 + (E + 1); omega) (Nat.le_refl _)⟩
  · rw [ef, e7, up2_ne (by omega), e6, up2_ne (by omega), e5, up2_ne (by omega), e4, up2_ne (by omega), e3, up2_ne (by omega), e2, up2_ne (by omega), e1, up2_self]; exact z0.symm
  · rw [ef, e7, up2_ne (by omega), e6, up2_ne (by omega), e5, up2_ne (by omega), e4, up2_ne (by omega), e3, up2_ne (by omega), e2, up2_self]; exact z1.symm
  · rw [ef, e7, up2_ne (by omega), e6, up2_ne (by omega), e5, up2_ne (by omega), e4, up2_ne (by omega), e3, up2_self]; exact (hz 2 (by decide)).symm
  · rw [ef, e7, up2_ne (by omega), e6, up2_ne (by omega), e5, up2_ne (by omega), e4, up2_self]; exact (z 3 (by decide) (by decide)).symm
  · rw [ef, e7, up2_ne (by omega), e6, up2_self]; unfold allW; dsimp only; rw [z0]; rfl
  · rw [ef, e7, up2_self]; unfold allE; dsimp only; rw [z1]; rfl
  · have hv' : v < (σ 0).toNat := hv
    rw [z0] at hv'; exact absurd hv' (Nat.not_lt_zero _)
  · have hv' : v < (σ 0).toNat := hv
    rw [z0] at hv'; exact absurd hv' (Nat.not_lt_zero _)
  · have hv' : v < (σ 1).toNat := hv
    rw [z1] at hv'; exact absurd hv' (Nat.not_lt_zero _)
  · have hv' : v < (σ 1).toNat := hv
    rw [z1] at hv'; exact absurd hv' (Nat.not_lt_zero _)
  · have hv' : v < (σ 1).toNat := hv
    rw [z1] at hv'; exact absurd hv' (Nat.not_lt_zero _)
  · show I8 210 4 = σ 4
    rw [ef, e7, up2_ne (by omega), e6, up2_ne (by omega), e5, up2_self]; exact (z 4 (by decide) (by decide)).symm
  · show I8 103 0 = ((0 : Nat) : Int)
    rw [e8, up2_self]; rfl
theorem c_start {σ : Nat → Int} {nm : Nat → Int64} (hP : PS σ) (hR : RG 200 I J σ nm) (h4 : I 200 4 = σ 4) : wp_X8_start 300 200 I J (fun I' _ => RS 300 I' σ) := by
  obtain ⟨hM, hE, h5, h6, hnn, hp, hg⟩ := hP
  have b0 := ms_0 hM
  refine ⟨Or.inl rfl, Or.inl rfl, ?_⟩
  intro I1 e1 I2 e2 I3 e3
  refine fill_of (n := 14) rfl (fun I4 e4 => ?_)
  have q0 : I4 200 0 = σ 0 := by rw [e4, upr_ne (by omega), e3, up2_ne (by omega), e2, up2_ne (by omega), e1, up2_ne (by omega)]; exact hR.n
  refine put_of (n := 5) (i := 0) rfl rfl (by omega) (fun I5 e5 => ?_)
  rw [q0] at e5
  refine ⟨15, loopN (L := fun m (t : Ii) v => L_X8_start_40 300 200 _ m v t J) (fun n t => (∀ k, k ≠ 303 → t k = I5 k) ∧ ∀ v, v < n → t 303 v = (v : Int)) (N := (σ 0).toNat) (fun m n t hv ht kk => ?_) 15 0 I5 (by omega) (by omega) ⟨fun _ _ => rfl, fun v h => by omega⟩⟩
  obtain ⟨t1, t2⟩ := ht
  show L_X8_start_40 300 200 _ (m + 1) (n : Int) t J
  refine ls_X8_start_40 ?_
  have k5 : ∀ i, I5 200 i = I 200 i := fun i => by rw [e5, up2_ne (by omega), e4, upr_ne (by omega), e3, up2_ne (by omega), e2, up2_ne (by omega), e1, up2_ne (by omega)]
  have tn : t 200 0 = σ 0 := by rw [t1 200 (by omega), k5]; exact hR.n
  generalize hr : L_X8_start_40 300 200 _ m = r at kk ⊢
  unfold Lb_X8_start_40
  rw [tn]
  refine ⟨rgK (by omega), rgK (by omega), fun d => ?_, fun d => put_of (n := 70) (i := n) rfl rfl (by omega) (fun I8 e8 => kk (by omega) I8 ⟨fun k hk => ?_, fun v hv' => ?_⟩)⟩
  · have ke : kev σ = 0 := by unfold kev; rw [h6]; rfl
    refine ⟨?_, ?_, ?_, fun v hv' => ?_, fun l hl => ?_, fun l v hl hv' => ?_, fun i w hi => ?_⟩
    · rw [t1 300 (by omega), h5, e5, up2_ne (by omega), e4, upr_ne (by omega), e3, up2_ne (by omega), e2, up2_ne (by omega), e1, up2_self]
    · rw [t1 300 (by omega), e5, up2_ne (by omega), e4, upr_ne (by omega), e3, up2_ne (by omega), e2, up2_self, e1, up2_ne (by omega)]; exact h4
    · rw [t1 300 (by omega), ke, e5, up2_ne (by omega), e4, upr_ne (by omega), e3, up2_self]
    · show t 301 v = _
      rw [t1 301 (by omega), hp v (by omega), e5, up2_ne (by omega), e4, upr_self, filR_lt (by omega)]
    · have : l = 0 := by omega
      subst this
      show t 302 0 = σ 105
      rw [t1 302 (by omega), hnn, e5, up2_self]
    · have : l = 0 := by omega
      subst this
      show t 303 (14 * 0 + v) = σ (35 + 14 * 0 + v)
      rw [show 14 * 0 + v = v by omega, show 35 + 14 * 0 + v = 35 + v by omega, t2 v (by omega), hg v hv']
    · rw [ke] at hi; exact absurd hi (Nat.not_lt_zero _)
  · show I8 k = _
    rw [e8, up2_key (by omega)]; exact t1 k hk
  · show I8 303 v = _
    rw [e8]
    by_cases c : v = n
    · rw [c, up2_self]
    · rw [up2_ne (by omega)]; exact t2 v (by omega)
/-- the tokens begin -/
theorem c_begin (h1 : I 101 1 = (E : Int)) (hB : ∀ i, i < E → I 102 i = B i) (hE : E ≤ 800) (hb : ∀ i, i < E → 0 ≤ B i ∧ B i ≤ 255) : wp_X10_begin I J (fun I' J' => CT B E 0 0 I' ∧ I' 101 1 = 0 ∧ J' = J) := by
  intro I1 e1 I2 e2 I3 e3 I4 e4 I5 e5 I6 e6 I7 e7 I8 e8 I9 e9
  have r9 : I9 101 9 = 0 := by rw [e9, up2_ne (by omega), e8, up2_ne (by omega), e7, up2_self]
  have r10 : I9 101 10 = -1 := by rw [e9, up2_ne (by omega), e8, up2_self]
  have r11 : I9 101 11 = -1 := by rw [e9, up2_self]
  refine ⟨⟨?_, ?_, Nat.zero_le _, ?_, fun i hi => ?_, hE, hb, r9, r10, r11⟩, ?_, rfl⟩
  · rw [e9, up2_ne (by omega), e8, up2_ne (by omega), e7, up2_ne (by omega), e6, up2_ne (by omega), e5, up2_ne (by omega), e4, up2_ne (by omega), e3, up2_ne (by omega), e2, up2_ne (by omega), e1, up2_self]; exact h1
  · rw [e9, up2_ne (by omega), e8, up2_ne (by omega), e7, up2_ne (by omega), e6, up2_ne (by omega), e5, up2_ne (by omega), e4, up2_self]; rfl
  · rw [e9, up2_ne (by omega), e8, up2_ne (by omega), e7, up2_ne (by omega), e6, up2_self]; rfl
  · rw [e9, up2_ne (by omega), e8, up2_ne (by omega), e7, up2_ne (by omega), e6, up2_ne (by omega), e5, up2_ne (by omega), e4, up2_ne (by omega), e3, up2_ne (by omega), e2, up2_ne (by omega), e1, up2_ne (by omega)]; exact hB i hi
  · rw [e9, up2_ne (by omega), e8, up2_ne (by omega), e7, up2_ne (by omega), e6, up2_ne (by omega), e5, up2_ne (by omega), e4, up2_ne (by omega), e3, up2_ne (by omega), e2, up2_self]
theorem c_readText {σ : Nat → Int} {nm : Nat → Int64} {u : St} (hz : Z0 σ) (h1 : I 101 1 = (E : Int)) (hB : ∀ i, i < E → I 102 i = B i) (hE : E ≤ 800) (hb : ∀ i, i < E → 0 ≤ B i ∧ B i ≤ 255) (hx : txt B E (E + 1) (σ, nm, 0, 0) = .ok u) : wp_X11_readText I J (fun r I' J' => r = u.1 0 ∧ RG 200 I' J' u.1 u.2.1 ∧ RS 300 I' u.1 ∧ I' 111 2 = 0 ∧ I' 101 1 = 0 ∧ I' 101 9 = 0 ∧ I' 101 10 = -1 ∧ I' 101 11 = -1) := by
  have hP := txt_PO (B := B) (E := E) (f := E + 1) (hz.PSt (nm := nm))
  rw [hx] at hP
  obtain ⟨hP1, hd, -, -⟩ : PSt E u := hP
  refine fr_X10_begin (c_begin h1 hB hE hb) (fun I1 J1 q1 s1 => ?_)
  obtain ⟨q1, p1, -⟩ := q1
  refine fr_X9_read (c_read (nm := nm) hz q1) (fun v2 I2 J2 h2 s2 => ?_)
  rw [hx] at h2
  obtain ⟨hv, hR, h4, n9, n10, n11⟩ : v2 = 1 ∧ RG 210 I2 J2 u.1 u.2.1 ∧ I2 210 4 = u.1 4 ∧ I2 101 9 = 0 ∧ I2 101 10 = -1 ∧ I2 101 11 = -1 := h2
  refine ⟨fun _ => ?_, fun z => by omega⟩
  refine fr_X2_copyFrom (c_copyG (Or.inl rfl) (Or.inr (Or.inl rfl)) (by omega) hP1.1 hR) (fun I3 J3 h3 s3 => ?_)
  refine fr_X8_start (c_start hP1 h3.1 (h3.2.trans h4)) (fun I4 J4 h4' s4 => ?_)
  intro I5 e5
  have k5 : ∀ k, k ≠ 111 → I5 k = I4 k := fun k a => by rw [e5, up2_key a]
  have hR4 := h3.1.fr s4
  refine ⟨?_, hR4.cong (k5 200 (by omega)) rfl (k5 202 (by omega)) (k5 203 (by omega)) (k5 204 (by omega)) (k5 205 (by omega)), h4'.cong (k5 300 (by omega)) (k5 301 (by omega)) (k5 302 (by omega)) (k5 303 (by omega)) (k5 304 (by omega)), by rw [e5, up2_self], ?_, ?_, ?_, ?_⟩
  · rw [k5 200 (by omega)]; exact hR4.n
  · rw [k5 101 (by omega), ← p1]; exact s4.i.trans (s3.i.trans s2.i)
  · rw [k5 101 (by omega), ← n9]; exact s4.i.trans s3.i
  · rw [k5 101 (by omega), ← n10]; exact s4.i.trans s3.i
  · rw [k5 101 (by omega), ← n11]; exact s4.i.trans s3.i
end CRD
