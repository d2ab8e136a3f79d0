/-! ===== parts and groups ===== -/
theorem smx_swap (f : Nat → Nat → Int) : ∀ n m, sm (fun p => sm (f p) m) n = sm (fun e => sm (fun p => f p e) n) m
  | 0, m => (sm_zero m).symm
  | n + 1, m => by
    rw [sm_succ, smx_swap f n m, ← sm_add]
    rfl
theorem smx_one {x w : Int} {n : Nat} (h : 0 ≤ x ∧ x < (n : Int)) : sm (fun p => if x = (p : Int) then w else 0) n = w := by
  have e := sm_except (f := fun p : Nat => if x = (p : Int) then w else 0) (h := fun _ => 0) (a := x.toNat) (n := n) (by omega) (fun k _ hne => by rw [if_neg (by omega)])
  rw [e, sm_zero, if_pos (by omega)]
  omega
theorem smx_oneC {A g x w : Int} {n : Nat} (h : 0 ≤ x ∧ x < (n : Int)) : sm (fun p => if A = g ∧ x = (p : Int) then w else 0) n = if A = g then w else 0 := by
  by_cases q : A = g
  · rw [if_pos q]
    refine (sm_cong (fun p _ => ?_)).trans (smx_one (w := w) h)
    by_cases r : x = (p : Int)
    · rw [if_pos ⟨q, r⟩, if_pos r]
    · rw [if_neg (fun z => r z.2), if_neg r]
  · rw [if_neg q]
    exact (sm_cong (fun p _ => if_neg (fun z => q z.1))).trans (sm_zero n)
theorem mem_bit {σ : Nat → Int} (g : Int) {v : Nat} (hv : v < (σ 0).toNat) : (memG σ g).testBit v = true ↔ gAt σ v = g := by
  unfold memG
  rw [bset_bit]
  simp [hv]
theorem inP_bit {σ : Nat → Int} (p : Int) {v : Nat} (hv : v < (σ 0).toNat) : (inP σ p).testBit v = true ↔ σ (21 + v) = p := by
  unfold inP
  rw [bset_bit]
  simp [hv]
theorem bool_eq {a b : Bool} {A B : Prop} (ha : a = true ↔ A) (hb : b = true ↔ B) : a = b ↔ (A ↔ B) := by
  rw [← ha, ← hb]
  cases a <;> cases b <;> simp
/-- what pulls a group is what leaves it -/
theorem pull_out {σ : Nat → Int} (hV : VS σ) (g : Int) : sm (fun p => pullZ σ g (p : Int)) (σ 2).toNat = outZ σ (memG σ g) := by
  unfold pullZ outZ
  rw [smx_swap (fun p e => pullE σ g (p : Int) e)]
  refine sm_cong (fun e he => ?_)
  have ha := hV.a he
  have hb := hV.b he
  have pa := hV.p (v := (σ (110 + e)).toNat) (by omega)
  have pb := hV.p (v := (σ (150 + e)).toNat) (by omega)
  have ba := mem_bit g (σ := σ) (v := (σ (110 + e)).toNat) (by omega)
  have bb := mem_bit g (σ := σ) (v := (σ (150 + e)).toNat) (by omega)
  unfold pullE
  have ee := bool_eq ba bb
  generalize (memG σ g).testBit (σ (110 + e)).toNat = ta at *
  generalize (memG σ g).testBit (σ (150 + e)).toNat = tb at *
  generalize gAt σ (σ (110 + e)).toNat = A at *
  generalize gAt σ (σ (150 + e)).toNat = B at *
  by_cases q : A = B
  · rw [if_pos (ee.mpr (by rw [q]))]
    exact (sm_cong (fun p _ => if_pos q)).trans (sm_zero (σ 2).toNat)
  · rw [show (fun p : Nat => if A = B then (0 : Int) else (if A = g ∧ σ (21 + (σ (150 + e)).toNat) = (p : Int) then σ (190 + e) else 0) + (if B = g ∧ σ (21 + (σ (110 + e)).toNat) = (p : Int) then σ (190 + e) else 0)) = fun p : Nat => (if A = g ∧ σ (21 + (σ (150 + e)).toNat) = (p : Int) then σ (190 + e) else 0) + (if B = g ∧ σ (21 + (σ (110 + e)).toNat) = (p : Int) then σ (190 + e) else 0) from funext fun p => if_neg q]
    rw [sm_add, smx_oneC (by omega), smx_oneC (by omega)]
    by_cases q1 : A = g
    · have q2 : ¬ B = g := by omega
      rw [if_pos q1, if_neg q2, if_neg (fun z => q2 ((ee.mp z).mp q1))]
      omega
    · by_cases q2 : B = g
      · rw [if_neg q1, if_pos q2, if_neg (fun z => q1 ((ee.mp z).mpr q2))]
        omega
      · rw [if_neg q1, if_neg q2, if_pos (ee.mpr ⟨fun z => absurd z q1, fun z => absurd z q2⟩)]
        rfl
/-- two bits and a set -/
theorem and_two {a b W : Nat} : (2 ^ a ||| 2 ^ b) &&& W = 0 ↔ W.testBit a = false ∧ W.testBit b = false := by
  constructor
  · intro h
    have key : ∀ i, (i = a ∨ i = b) → W.testBit i = false := fun i hi => by
      have e := congrArg (fun x => x.testBit i) h
      simp only [Nat.testBit_and, Nat.testBit_or, Nat.testBit_two_pow, Nat.zero_testBit] at e
      have h1 : (decide (a = i) || decide (b = i)) = true := by rcases hi with rfl | rfl <;> simp
      rw [h1, Bool.true_and] at e
      exact e
    exact ⟨key a (Or.inl rfl), key b (Or.inr rfl)⟩
  · intro h
    apply Nat.eq_of_testBit_eq
    intro i
    simp only [Nat.testBit_and, Nat.testBit_or, Nat.testBit_two_pow, Nat.zero_testBit]
    by_cases qa : a = i
    · subst qa; rw [h.1, Bool.and_false]
    · by_cases qb : b = i
      · subst qb; rw [h.2, Bool.and_false]
      · simp [qa, qb]
/-- what a part tells -/
def parZ (σ : Nat → Int) (p y : Int) : Int := if y = 0 then wOf σ p else if y = 1 then debtZ σ p else if y = 2 then ((inP σ p : Nat) : Int) else if y = 3 then pieZ σ (inP σ p) else outZ σ (inP σ p)
/-- what a group tells -/
def groZ (σ : Nat → Int) (g y : Int) : Int := if y = 0 then ((memG σ g : Nat) : Int) else if y = 1 then gW σ g else if y = 2 then gPt σ g else outZ σ (memG σ g)
section ASP
variable {I : Ii} {J : Jj} {σ : Nat → Int} {nm : Nat → Int64} {x y : Int}
theorem c_cutAround (hV : VS σ) (hR : RG 200 I J σ nm) (hS : RS 300 I σ) (hE : ME σ I) (hx : 0 ≤ x ∧ x < σ 2) : wp_X11_cutAround x I J (fun r _ _ => r = outZ σ (inP σ x)) := by
  have b0 := ms_0 hV.M
  have b1 := ms_1 hV.M
  have b2 := ms_2 hV.M
  have hm := hR.m
  have hW := inP_b hV.M x
  refine at_of (n := 4) (i := x.toNat) rfl (by omega) (by omega) ?_
  rw [(hE.2.2.2.2.2.2.2.1 x.toNat (by omega)).1, show ((x.toNat : Nat) : Int) = x by omega]
  refine ⟨41, loopN (L := fun n t v => L_X11_cutAround_17 x _ n ((inP σ x : Nat) : Int) t v I J) (fun v t => t = sm (fun e => if (inP σ x).testBit (σ (110 + e)).toNat = (inP σ x).testBit (σ (150 + e)).toNat then 0 else σ (190 + e)) v) (N := (σ 1).toNat) (fun n v t hv ht k => ?_) 41 0 0 (by omega) (by omega) rfl⟩
  refine ls_X11_cutAround_17 ?_
  generalize hr : L_X11_cutAround_17 x _ n = r at k ⊢
  unfold Lb_X11_cutAround_17
  refine ⟨rgK (by omega), rgK (by omega), fun c => ?_, fun c => ?_⟩
  · rw [ht, show v = (σ 1).toNat by omega]; rfl
  · have hv' : v < (σ 1).toNat := by omega
    have h1 := hV.a hv'
    have h2 := hV.b hv'
    have ba := inP_bit x (σ := σ) (v := (σ (110 + v)).toNat) (by omega)
    have bb := inP_bit x (σ := σ) (v := (σ (150 + v)).toNat) (by omega)
    have ee := bool_eq ba bb
    refine isCut_of hV hR hS rfl hv' (fun d => ⟨fun z => absurd z (by decide), fun _ => endsOf_of (Or.inl rfl) hV hR rfl hv' ?_⟩) (fun d => ⟨fun _ => k (by omega) _ ?_, fun z => absurd rfl z⟩)
    · have p1 : 2 ^ (σ (110 + v)).toNat < 2 ^ 14 := Nat.pow_lt_pow_right (by decide) (by omega)
      have p2 : 2 ^ (σ (150 + v)).toNat < 2 ^ 14 := Nat.pow_lt_pow_right (by decide) (by omega)
      have p3 : 2 ^ (σ (110 + v)).toNat ||| 2 ^ (σ (150 + v)).toNat < 2 ^ 14 := Nat.or_lt_two_pow p1 p2
      rw [andZ_nat (by omega)]
      have two := and_two (a := (σ (110 + v)).toNat) (b := (σ (150 + v)).toNat) (W := inP σ x)
      refine ⟨fun z => k (by omega) _ ?_, fun z => at_of (n := 40) rfl rfl (by omega) (k (by omega) _ ?_)⟩
      · have := two.mp (by omega)
        rw [ht, sm_succ, if_pos (this.1.trans this.2.symm)]
        omega
      · rw [hR.h hv', ht, sm_succ, if_neg]
        intro w
        apply z
        have w2 := ee.mp w
        have na : ¬ σ (21 + (σ (110 + v)).toNat) = x := fun q => d (q.trans (w2.mp q).symm)
        have nb : ¬ σ (21 + (σ (150 + v)).toNat) = x := fun q => na (w2.mpr q)
        have := two.mpr ⟨Bool.eq_false_iff.mpr (fun q => na (ba.mp q)), Bool.eq_false_iff.mpr (fun q => nb (bb.mp q))⟩
        omega
    · have d := Classical.not_not.mp d
      rw [ht, sm_succ, if_pos (ee.mpr (by rw [d]))]
      omega
theorem c_part (hV : VS σ) (hR : RG 200 I J σ nm) (hS : RS 300 I σ) (hx : 0 ≤ x ∧ x < σ 2) (hy : 0 ≤ y ∧ y ≤ 4) : wp_X11_part x y I J (fun r _ _ => r = parZ σ x y) := by
  have b2 := ms_2 hV.M
  have bw := wOf_b hV.M x
  have xx : ((x.toNat : Nat) : Int) = x := by omega
  unfold parZ
  refine reqP_of hV hR hx (fr_X4_take (c_take sK300 hV hR hS) (fun I3 J3 hE s3 => ?_))
  have h7 := hE.2.2.2.2.2.2.2.1 x.toNat (by omega)
  rw [xx] at h7
  refine ⟨rgK (by omega), fun z => by omega, fun c => ?_, fun c => ?_, fun c => ?_, fun c => ?_, fun c => ?_⟩
  · refine at_of (n := 4) (i := x.toNat) rfl (by omega) (by omega) ?_
    rw [if_pos c, h7.2]
  · refine at_of (n := 4) (i := x.toNat) rfl (by omega) (by omega) ?_
    rw [h7.2]
    refine debtAt_of hV hE.2.2.1 (by omega) ?_
    rw [if_neg (by omega), if_pos c, debtZ_pos]
  · refine at_of (n := 4) (i := x.toNat) rfl (by omega) (by omega) ?_
    rw [if_neg (by omega), if_neg (by omega), if_pos c, h7.1]
  · refine at_of (n := 4) (i := x.toNat) rfl (by omega) (by omega) ?_
    rw [h7.1, if_neg (by omega), if_neg (by omega), if_neg (by omega), if_pos c]
    exact fr_X2_pieces (c_pieces (Or.inl rfl) hV (hR.fr s3) rfl (inP_b hV.M x)) (fun v hv => hv)
  · rw [if_neg (by omega), if_neg (by omega), if_neg (by omega), if_neg (by omega)]
    exact c_cutAround hV (hR.fr s3) (hS.fr s3) hE hx
theorem c_group (hV : VS σ) (hR : RG 200 I J σ nm) (hS : RS 300 I σ) (hx : 0 ≤ x ∧ x < grs σ) (hy : 0 ≤ y ∧ y ≤ 3) : wp_X11_group x y I J (fun r _ _ => r = groZ σ x y) := by
  have gr := grs_b hV.M
  have xx : ((x.toNat : Nat) : Int) = x := by omega
  unfold groZ
  refine reqG_of hV hS hx (fr_X4_take (c_take sK300 hV hR hS) (fun I3 J3 hE s3 => ?_))
  have h6 := hE.2.2.2.2.2.2.1 x.toNat (by omega)
  rw [xx] at h6
  refine ⟨rgK (by omega), fun z => by omega, fun c => ?_, fun c => ?_, fun c => ?_, fun c => ?_⟩
  · refine at_of (n := 14) (i := x.toNat) rfl (by omega) (by omega) ?_
    rw [if_pos c, h6.1]
  · refine at_of (n := 14) (i := x.toNat) rfl (by omega) (by omega) ?_
    rw [if_neg (by omega), if_pos c, h6.2.1]
  · refine at_of (n := 14) (i := x.toNat) rfl (by omega) (by omega) ?_
    rw [if_neg (by omega), if_neg (by omega), if_pos c, h6.2.2]
  · refine pullOfAll_of hV hE (g := x.toNat) (by omega) (by omega) ?_
    rw [if_neg (by omega), if_neg (by omega), if_neg (by omega), xx]
    exact pull_out hV x
theorem s_part (hV : VS (I 2)) (hx : rg x) (hy : rg y) : wp_X12_part x y I J (fun r I' _ => AN2 (0 ≤ x ∧ x < I 2 2) (0 ≤ y ∧ y ≤ 4) (parZ (I 2) x y) r I I') := by
  have hM := hV.M
  refine fr_X12_isPart (s_isPart hM hx) (fun v hv => fr_X12_isIn (s_isInB hy (rgK (by omega)) (rgK (by omega))) (fun w hw => ?_))
  refine both_of hv hw (fun hP hR I' e => ?_) (fun hP I' e => ⟨fun z => absurd rfl z, fun _ => Or.inr (Or.inl ⟨hP, rfl, e⟩)⟩) (fun hP hR I' e => ⟨fun z => absurd rfl z, fun _ => Or.inr (Or.inr ⟨hP, hR, rfl, e⟩)⟩)
  have e2 : I' 2 = I 2 := by rw [e, up2_key (by omega)]
  have hV' : VS (I' 2) := by rw [e2]; exact hV
  have hW := inP_b hV'.M x
  refine ⟨fun _ => ⟨hy, fun c => ?_, fun c => ?_, fun c => ?_, fun c => ?_, fun c => ?_⟩, fun z => absurd z (by decide)⟩
  · refine fr_X12_inPart (s_inPart hV'.M hx) (fun v hv => fr_X12_outOf (s_outOf hV'.M hv (by omega)) (fun u hu => Or.inl ⟨hP, hR, ?_, e⟩))
    unfold parZ; rw [if_neg (by omega), if_neg (by omega), if_neg (by omega), if_neg (by omega), hu, e2]
  · refine fr_X12_weightOf (s_weightOf hV'.M hx) (fun v hv => Or.inl ⟨hP, hR, ?_, e⟩)
    unfold parZ; rw [if_pos c, hv, e2]
  · refine fr_X12_debtOf (s_debtOf hV'.M hx) (fun v hv => Or.inl ⟨hP, hR, ?_, e⟩)
    unfold parZ; rw [if_neg (by omega), if_pos c, hv, e2]
  · refine fr_X12_inPart (s_inPart hV'.M hx) (fun v hv => Or.inl ⟨hP, hR, ?_, e⟩)
    unfold parZ; rw [if_neg (by omega), if_neg (by omega), if_pos c, hv, e2]
  · refine fr_X12_pieces (s_pieces hV' hx) (fun v hv => Or.inl ⟨hP, hR, ?_, e⟩)
    unfold parZ; rw [if_neg (by omega), if_neg (by omega), if_neg (by omega), if_pos c, hv, e2]
theorem s_group (hV : VS (I 2)) (hx : rg x) (hy : rg y) : wp_X12_group x y I J (fun r I' _ => AN2 (0 ≤ x ∧ x < grs (I 2)) (0 ≤ y ∧ y ≤ 3) (groZ (I 2) x y) r I I') := by
  have hM := hV.M
  refine fr_X12_isGroup (s_isGroup hM hx) (fun v hv => fr_X12_isIn (s_isInB hy (rgK (by omega)) (rgK (by omega))) (fun w hw => ?_))
  refine both_of hv hw (fun hP hR I' e => ?_) (fun hP I' e => ⟨fun z => absurd rfl z, fun _ => Or.inr (Or.inl ⟨hP, rfl, e⟩)⟩) (fun hP hR I' e => ⟨fun z => absurd rfl z, fun _ => Or.inr (Or.inr ⟨hP, hR, rfl, e⟩)⟩)
  have e2 : I' 2 = I 2 := by rw [e, up2_key (by omega)]
  have hV' : VS (I' 2) := by rw [e2]; exact hV
  have hW := memG_b hV'.M x
  refine ⟨fun _ => ⟨hy, fun c => ?_, fun c => ?_, fun c => ?_, fun c => ?_⟩, fun z => absurd z (by decide)⟩
  · refine fr_X12_membersOf (s_membersOf hV'.M hx) (fun v hv => fr_X12_outOf (s_outOf hV'.M hv (by omega)) (fun u hu => Or.inl ⟨hP, hR, ?_, e⟩))
    unfold groZ; rw [if_neg (by omega), if_neg (by omega), if_neg (by omega), hu, e2]
  · refine fr_X12_membersOf (s_membersOf hV'.M hx) (fun v hv => Or.inl ⟨hP, hR, ?_, e⟩)
    unfold groZ; rw [if_pos c, hv, e2]
  · refine fr_X12_groupWeight (s_groupWeight hV'.M hx) (fun v hv => Or.inl ⟨hP, hR, ?_, e⟩)
    unfold groZ; rw [if_neg (by omega), if_pos c, hv, e2]
  · refine fr_X12_groupPart (s_gPt hV'.M hx (by rw [e2]; exact hV.GV.has hM hP.1 hP.2)) (fun v hv => Or.inl ⟨hP, hR, ?_, e⟩)
    unfold groZ; rw [if_neg (by omega), if_neg (by omega), if_pos c, hv, e2]
end ASP
