/-! ===== a whole text: the reference ===== -/
theorem once4 : ∀ T, T < 8 → ∀ w, w < 3 → (4 * T).testBit (w + 2) = T.testBit w ∧ (4 * T) ||| (1 * 2 ^ (w + 2)) = 4 * (T ||| 2 ^ w) := by decide
/-- the empty row -/
def Z1 : Nat → Int := updr (fun _ => 0) 2 2
theorem Z1_Z0 : Z0 Z1 := fun i _ => by unfold Z1 updr; rfl
theorem Z1_Tl : Tl 350 Z1 := fun i h => by unfold Z1; rw [updr_ne (by omega)]
def thenS (B : Nat → Int) (E : Nat) (x : Except (Int × Nat) St) : Except (Int × Nat) St := match x with
  | .error e => .error e
  | .ok u => semi B E u
theorem stm_then (B : Nat → Int) (E : Nat) (t : St) : stm B E t = thenS B E (stb B E t) := rfl
section RRD
variable {I : Ii} {J : Jj} {B : Nat → Int} {E p : Nat} {σ : Nat → Int} {nm : Nat → Int64} {T : Nat}
theorem s_readsOnce {w : Nat} {x lo hi : Int} (hw : w ≤ 2) (hx : x = ((w + 2 : Nat) : Int)) (hl : 0 ≤ lo ∧ lo ≤ 999 ∧ 0 ≤ hi ∧ hi ≤ 999) (hS : PSt E (σ, nm, T, p)) (hk : tK B E p = 1) (hR : RT B E (σ, nm, T, p) I J) : wp_X12_readsOnce x lo hi I J (RQ B E (onc B E w lo hi σ nm T (tE B E p) (tS B E p))) := by
  obtain ⟨hP, hd, hT, hp⟩ := hS
  obtain ⟨hL, h2, h7, h25, ht, htJ⟩ := hR
  dsimp only at hP hd hT hp hL h2 h7 h25 ht htJ
  subst hx
  have o4 := once4 T hT w (by omega)
  have pw : 1 * 2 ^ (w + 2) ≤ 1 * 2 ^ 4 := Nat.mul_le_mul_left _ (Nat.pow_le_pow_right (by decide) (by omega))
  have sh : shlZ 1 ((w + 2 : Nat) : Int) = ((1 * 2 ^ (w + 2) : Nat) : Int) := shlZ_nat (a := 1) (by omega) (by omega)
  have or4 : orZ (I 0 25) (shlZ 1 ((w + 2 : Nat) : Int)) = ((4 * (T ||| 2 ^ w) : Nat) : Int) := by
    rw [sh, h25, orZ_nat (by omega) (by omega), o4.2]
  have xw : (((w + 2 : Nat) : Int)).toNat = w + 2 := by omega
  unfold RQ onc
  refine fr_X12_hasBit (s_hasBit (s := 4 * T) (k := w + 2) h25 rfl (by omega) (by omega)) (fun v hv => ?_)
  rw [o4.1] at hv
  rcases hv with ⟨rfl, c⟩ | ⟨rfl, c⟩
  · refine ⟨fun z => absurd z (by decide), fun _ => ?_⟩
    rw [if_pos c]
    refine wrong_of hL (c := 4) (by decide) (by rw [if_neg (by omega)]) (fun I2 q s => ?_)
    intro I3 e3
    have q3 : RF 4 (tS B E p) 0 I3 := ⟨q.1, by rw [e3, up2_ne (by omega)]; exact q.2.1, by rw [e3, up2_ne (by omega)]; exact q.2.2.1, by rw [e3, up2_ne (by omega)]; exact q.2.2.2⟩
    refine bad_of q3 ⟨fun _ => numberB_of q3 (fun v => bad_of q3 ⟨fun _ => ⟨q3, ?_, ?_⟩, fun z => absurd rfl z⟩), fun z => absurd rfl z⟩
    · rw [e3, up2_key (by omega), s.k, h2]; exact ht
    · rw [h7]; exact htJ
  · refine ⟨fun _ => ?_, fun z => absurd rfl z⟩
    rw [if_neg c]
    intro I3 e3
    rw [or4] at e3
    have l3 : LX B E 0 p I3 J := hL.cong (fun i _ _ => by rw [e3, up2_ne (by omega)]) (by rw [e3, up2_ne (by omega)]) (by rw [e3, up2_key (by omega)]) rfl
    have f2 : I3 2 = σ := by rw [e3, up2_key (by omega)]; exact h2
    refine good_of l3.1 ⟨fun z => absurd z (by decide), fun _ => goOn_of l3 (fun I5 J5 l5 s5 => ?_)⟩
    refine number_of l5 hl (fun kn I6 J6 l6 s6 => ?_) (fun kn v I6 q6 s6 => ?_)
    · rw [if_neg (fun z => z kn)]
      refine good_of l6.1 ⟨fun z => absurd z (by decide), fun _ => ⟨by omega, ?_⟩⟩
      intro I9 e9
      rw [xw] at e9
      have ek : ∀ k, k ≠ 2 → I9 k = I6 k := fun k a => by rw [e9, up2_key a]
      refine ⟨l6.cong (fun i _ _ => by rw [ek 0 (by omega)]) (by rw [ek 0 (by omega)]) (ek 1 (by omega)) rfl, ?_, s6.kJ.trans (s5.kJ.trans h7), ?_, Tl_up ht (by omega), htJ⟩
      · show I9 2 = updr σ (w + 2) (tN B E (tE B E p))
        rw [e9, up2_row, s6.k, s5.k, f2]
      · show I9 0 25 = ((4 * (T ||| 2 ^ w) : Nat) : Int)
        have e25 : I3 0 25 = ((4 * (T ||| 2 ^ w) : Nat) : Int) := by rw [e3, up2_self]
        rw [ek 0 (by omega), ← e25]; exact s6.i.trans s5.i
    · rw [if_pos kn]
      refine bad_of q6 ⟨fun _ => ⟨q6, ?_, ?_⟩, fun z => absurd rfl z⟩
      · rw [s6.k, s5.k, f2]; exact ht
      · rw [s5.kJ, h7]; exact htJ
/-- behind a statement stands a semicolon -/
theorem s_semi {x : Except (Int × Nat) St} (h : RQ B E x I J) (hx : PO x (fun _ _ => True) (fun u => PSt E u)) : B_X12_statement_101 (RQ B E (thenS B E x)) I J := by
  cases x with
  | error e =>
    obtain ⟨h1, h2, h3⟩ : RF e.1 e.2 0 I ∧ Tl 350 (I 2) ∧ TlJ 14 (J 7) := h
    exact mustB_of h1 ⟨h1, h2, h3⟩
  | ok u =>
    obtain ⟨hL, h2, h7, h25, ht, htJ⟩ : RT B E u I J := h
    show B_X12_statement_101 (RQ B E (semi B E u)) I J
    unfold RQ semi
    refine must_of hL (k := 3) (by omega) (fun k I' J' l s => ?_) (fun k I' q s => ?_)
    · rw [if_pos k]
      exact ⟨l, s.k.trans h2, s.kJ.trans h7, s.i.trans h25, ht, htJ⟩
    · rw [if_neg k]
      exact ⟨q, by rw [s.k, h2]; exact ht, by rw [h7]; exact htJ⟩
theorem s_statement {t : St} (hS : PSt E t) (h0 : tK B E t.2.2.2 ≠ 0) (hR : RT B E t I J) : wp_X12_statement I J (RQ B E (stm B E t)) := by
  have hL := hR.1
  have hS' : PSt E (t.1, t.2.1, t.2.2.1, t.2.2.2) := hS
  have hR' : RT B E (t.1, t.2.1, t.2.2.1, t.2.2.2) I J := hR
  have hP := stb_PO hS h0
  have hx : PO (stb B E t) (fun _ _ => True) (fun u => PSt E u) := by
    cases hs : stb B E t with
    | error e => trivial
    | ok u => rw [hs] at hP; exact hP.1
  rw [stm_then]
  have fin : ∀ {I' : Ii} {J' : Jj}, RQ B E (stb B E t) I' J' → B_X12_statement_101 (RQ B E (thenS B E (stb B E t))) I' J' := fun h => s_semi h hx
  generalize hG : (RQ B E (thenS B E (stb B E t))) = G at fin ⊢
  clear hG hP hx
  unfold stb at fin
  refine isWord_ofX hL (fun c => ⟨fun z => absurd z (by decide), fun _ => ?_⟩) (fun c => ⟨fun _ => ?_, fun z => absurd rfl z⟩)
  · rw [if_pos c] at fin
    exact fr_X12_readsVertex (s_readsVertex hS' c.1 hR') (fun I' J' h _ => fin h)
  rw [if_neg c] at fin
  refine isWord_ofX hL (fun c2 => ⟨fun z => absurd z (by decide), fun _ => ?_⟩) (fun c2 => ⟨fun _ => ?_, fun z => absurd rfl z⟩)
  · rw [if_pos c2] at fin
    exact fr_X12_readsEdge (s_readsEdge hS' c2.1 hR') (fun I' J' h _ => fin h)
  rw [if_neg c2] at fin
  refine isWord_ofX hL (fun c3 => ⟨fun z => absurd z (by decide), fun _ => ?_⟩) (fun c3 => ⟨fun _ => ?_, fun z => absurd rfl z⟩)
  · rw [if_pos c3] at fin
    exact fr_X12_readsOnce (s_readsOnce (w := 0) (by decide) rfl (by decide) hS' c3.1 hR') (fun I' J' h _ => fin h)
  rw [if_neg c3] at fin
  refine isWord_ofX hL (fun c4 => ⟨fun z => absurd z (by decide), fun _ => ?_⟩) (fun c4 => ⟨fun _ => ?_, fun z => absurd rfl z⟩)
  · rw [if_pos c4] at fin
    exact fr_X12_readsOnce (s_readsOnce (w := 1) (by decide) rfl (by decide) hS' c4.1 hR') (fun I' J' h _ => fin h)
  rw [if_neg c4] at fin
  refine isWord_ofX hL (fun c5 => ⟨fun z => absurd z (by decide), fun _ => ?_⟩) (fun c5 => ⟨fun _ => ?_, fun z => absurd rfl z⟩)
  · rw [if_pos c5] at fin
    exact fr_X12_readsOnce (s_readsOnce (w := 2) (by decide) rfl (by decide) hS' c5.1 hR') (fun I' J' h _ => fin h)
  rw [if_neg c5] at fin
  refine wrong_of hL (c := 1) (by decide) (by split <;> rfl) (fun I' q s => fin ⟨q, ?_, ?_⟩)
  · rw [s.k, hR.2.1]; exact hR.2.2.2.2.1
  · rw [hR.2.2.1]; exact hR.2.2.2.2.2
/-- the end of a text: what was told -/
theorem ends_of {z : Int} (h : I 0 8 = z) (hz : 0 ≤ z ∧ z ≤ 6) {Q : Int → Ii → Jj → Prop} (hq : ∀ I', I' 0 0 = (if z = 0 then 0 else 1) → I' 0 11 = z → I' 0 12 = I 0 9 → I' 0 13 = I 0 10 → Same W_X12_endsText I J I' J → Q (if z = 0 then 1 else 0) I' J) : wp_X12_endsText I J Q := by
  refine fr_X12_endsText (P := fun r I' J' => r = (if z = 0 then 1 else 0) ∧ I' 0 0 = (if z = 0 then 0 else 1) ∧ I' 0 11 = z ∧ I' 0 12 = I 0 9 ∧ I' 0 13 = I 0 10 ∧ J' = J) ?_ (fun v I' J' q s => by obtain ⟨rfl, q1, q2, q3, q4, rfl⟩ := q; exact hq I' q1 q2 q3 q4 s)
  intro I1 e1 I2 e2 I3 e3
  have q8 : I3 0 8 = z := by rw [e3, up2_ne (by omega), e2, up2_ne (by omega), e1, up2_ne (by omega)]; exact h
  have go : ∀ y : Int, y = (if z = 0 then 1 else 0) → B_X12_endsText_37 (fun r I' J' => r = (if z = 0 then 1 else 0) ∧ I' 0 0 = (if z = 0 then 0 else 1) ∧ I' 0 11 = z ∧ I' 0 12 = I 0 9 ∧ I' 0 13 = I 0 10 ∧ J' = J) y I3 J := by
    intro y hy
    have y01 : y = 0 ∨ y = 1 := by split at hy <;> omega
    refine fr_X12_goes (s_goes y01) (fun v I' J' q _ => ?_)
    obtain ⟨rfl, rfl, rfl⟩ := q
    refine ⟨y01, hy, ?_, ?_, ?_, ?_, rfl⟩
    · rw [up2_self, hy]; split <;> rfl
    · rw [up2_ne (by omega), e3, up2_ne (by omega), e2, up2_ne (by omega), e1, up2_self]; exact h
    · rw [up2_ne (by omega), e3, up2_ne (by omega), e2, up2_self, e1, up2_ne (by omega)]
    · rw [up2_ne (by omega), e3, up2_self, e2, up2_ne (by omega), e1, up2_ne (by omega)]
  exact ⟨rgK (by omega), fun c => go 0 (by rw [if_neg (by omega)]), fun c => go 1 (by rw [if_pos (by omega)])⟩
end RRD
