/-! ===== edges of the reference, mates, the border ===== -/
/-- an answer of the reference that may be refused with a 1 or a 2 -/
def AN2 (P R : Prop) (v r : Int) (I I' : Ii) : Prop := (P ∧ R ∧ r = v ∧ I' = up2 I 0 0 0) ∨ (¬ P ∧ r = 0 ∧ I' = up2 I 0 0 1) ∨ (P ∧ ¬ R ∧ r = 0 ∧ I' = up2 I 0 0 2)
section ASO
variable {I : Ii} {J : Jj} {σ : Nat → Int} {nm : Nat → Int64} {x y : Int}
theorem both_of {z w : Int} {P R : Prop} (hz : Bo z P) (hw : Bo w R) {Q : Int → Ii → Jj → Prop} (h1 : P → R → ∀ I', I' = up2 I 0 0 0 → Q 1 I' J) (h0 : ¬ P → ∀ I', I' = up2 I 0 0 1 → Q 0 I' J) (h2 : P → ¬ R → ∀ I', I' = up2 I 0 0 2 → Q 0 I' J) : wp_X12_goesBoth z w I J Q := by
  refine fr_X12_goesBoth (s_goesBoth hz.b hw.b) (fun v I' J' h _ => ?_)
  obtain ⟨rfl, c, e, hc⟩ := h
  rcases hc with ⟨a1, a2, a3, a4⟩ | ⟨a1, a3, a4⟩ | ⟨a1, a2, a3, a4⟩
  · subst a3 a4
    exact h1 (by rcases hz with q | q; · exact q.2
                 · omega) (by rcases hw with q | q; · exact q.2
                              · omega) I' e
  · subst a3 a4
    exact h0 (by rcases hz with q | q; · omega
                 · exact q.2) I' e
  · subst a3 a4
    exact h2 (by rcases hz with q | q; · exact q.2
                 · omega) (by rcases hw with q | q; · omega
                              · exact q.2) I' e
theorem s_edge (hM : MS (I 2)) (hx : rg x) (hy : rg y) : wp_X12_edge x y I J (fun r I' _ => AN2 (0 ≤ x ∧ x < I 2 1) (0 ≤ y ∧ y ≤ 3) (edgZ (I 2) x.toNat y) r I I') := by
  have b1 := ms_1 hM
  refine fr_X12_isEdge (s_isEdge hM hx) (fun v hv => fr_X12_isIn (s_isInB hy (rgK (by omega)) (rgK (by omega))) (fun w hw => ?_))
  refine both_of hv hw (fun hP hR I' e => ?_) (fun hP I' e => ⟨fun z => absurd rfl z, fun _ => Or.inr (Or.inl ⟨hP, rfl, e⟩)⟩) (fun hP hR I' e => ⟨fun z => absurd rfl z, fun _ => Or.inr (Or.inr ⟨hP, hR, rfl, e⟩)⟩)
  have e2 : I' 2 = I 2 := by rw [e, up2_key (by omega)]
  refine ⟨fun _ => ⟨hy, fun c => ?_, fun c => ⟨by omega, Or.inl ⟨hP, hR, ?_, e⟩⟩, fun c => ⟨by omega, Or.inl ⟨hP, hR, ?_, e⟩⟩, fun c => ⟨by omega, Or.inl ⟨hP, hR, ?_, e⟩⟩⟩, fun z => absurd z (by decide)⟩
  · refine fr_X12_isCut (s_isCut (e := x.toNat) (by rw [e2]; exact hM) (by omega) (by omega)) (fun v hv => ?_)
    refine fr_X12_truth (s_truth hv.b) (fun v2 hv2 => Or.inl ⟨hP, hR, ?_, e⟩)
    rw [e2] at hv
    unfold edgZ
    rw [if_neg (by omega), if_neg (by omega), if_neg (by omega), hv2]
    rcases hv with ⟨rfl, h⟩ | ⟨rfl, h⟩
    · rw [if_neg h]
    · rw [if_pos (Classical.not_not.mp h)]
  · unfold edgZ; rw [if_pos c, e2, show (110 + x).toNat = 110 + x.toNat by omega]
  · unfold edgZ; rw [if_neg (by omega), if_pos c, e2, show (150 + x).toNat = 150 + x.toNat by omega]
  · unfold edgZ; rw [if_neg (by omega), if_neg (by omega), if_pos c, e2, show (190 + x).toNat = 190 + x.toNat by omega]
theorem c_mate (hV : VS σ) (hR : RG 200 I J σ nm) (hS : RS 300 I σ) (hx : 0 ≤ x ∧ x < grs σ) : wp_X11_mate x I J (fun r _ _ => r = mateZ σ x.toNat) := by
  have gr := grs_b hV.M
  refine reqG_of hV hS hx (fr_X11_findPairs (c_findPairs hV hR hS) (fun I2 J2 h2 _ => at_of (n := 14) (i := x.toNat) rfl (by omega) (by omega) (h2.2.2 x.toNat (by omega))))
theorem s_mate (hV : VS (I 2)) (hx : rg x) : wp_X12_mate x I J (fun r I' _ => (((0 ≤ x ∧ x < grs (I 2)) ∧ r = mateZ (I 2) x.toNat ∧ I' 0 0 = 0)) ∨ (¬ (0 ≤ x ∧ x < grs (I 2)) ∧ r = 0 ∧ I' 0 0 = 1)) := by
  have gr := grs_b hV.M
  refine fr_X12_isGroup (s_isGroup hV.M hx) (fun v hv => goes_of hv (fun hP I' e => ⟨fun _ => ?_, fun z => absurd z (by decide)⟩) (fun hP I' e => ⟨fun z => absurd rfl z, fun _ => Or.inr ⟨hP, rfl, by rw [e, up2_self]⟩⟩))
  have e2 : I' 2 = I 2 := by rw [e, up2_key (by omega)]
  have f0 : I' 0 0 = 0 := by rw [e, up2_self]
  refine fr_X12_laysMates (s_laysMates (by rw [e2]; exact hV)) (fun r I3 J3 h3 s3 => ⟨by omega, Or.inl ⟨hP, ?_, s3.i.trans f0⟩⟩)
  rw [h3.2 x.toNat (by omega), e2]
theorem c_border (hV : VS σ) (hR : RG 200 I J σ nm) (hS : RS 300 I σ) : wp_X11_border I J (fun r _ _ => r = ((bordZ σ (σ 1).toNat : Nat) : Int)) := by
  have hM := hV.M
  have b1 := ms_1 hM
  have b0 := ms_0 hM
  have hm := hR.m
  refine ⟨41, loopN (L := fun n t v => L_X11_border_4 _ n t v I J) (fun v t => t = ((bordZ σ v : Nat) : Int)) (N := (σ 1).toNat) (fun n v t hv ht k => ?_) 41 0 0 (by omega) (by omega) rfl⟩
  refine ls_X11_border_4 ?_
  unfold Lb_X11_border_4
  refine ⟨rgK (by omega), rgK (by omega), fun c => ?_, fun c => ?_⟩
  · rw [ht, show v = (σ 1).toNat by omega]
  · have hv' : v < (σ 1).toNat := by omega
    have h1 := hV.a hv'
    have h2 := hV.b hv'
    have h3 := bordZ_lt hM v (by omega)
    refine isCut_of hV hR hS rfl hv' (fun d => ⟨fun z => absurd z (by decide), fun _ => endsOf_of (Or.inl rfl) hV hR rfl hv' (k (by omega) _ ?_)⟩) (fun d => ⟨fun _ => k (by omega) _ ?_, fun z => absurd rfl z⟩)
    · have p1 : 2 ^ (σ (110 + v)).toNat < 2 ^ 14 := Nat.pow_lt_pow_right (by decide) (by omega)
      have p2 : 2 ^ (σ (150 + v)).toNat < 2 ^ 14 := Nat.pow_lt_pow_right (by decide) (by omega)
      have p3 : 2 ^ (σ (110 + v)).toNat ||| 2 ^ (σ (150 + v)).toNat < 2 ^ 14 := Nat.or_lt_two_pow p1 p2
      rw [ht, orZ_nat (by omega) (by omega), bordZ_succ, if_pos d]
    · rw [ht, bordZ_succ, if_neg d]
theorem s_border (hM : MS (I 2)) : wp_X12_border I J (fun r I' _ => r = ((bordZ (I 2) (I 2 1).toNat : Nat) : Int) ∧ I' = up2 I 0 0 0) := by
  intro I1 e1
  have e2 : I1 2 = I 2 := by rw [e1, up2_key (by omega)]
  exact fr_X12_borderNow (s_borderNow (by rw [e2]; exact hM)) (fun r hr => ⟨by rw [hr, e2], e1⟩)
end ASO
