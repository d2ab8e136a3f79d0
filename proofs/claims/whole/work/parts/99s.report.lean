/-! ===== reports ===== -/
/-- a name's letters, from place p - 1 down -/
def nmL (w : Int64) : Nat → List Int
  | 0 => []
  | p + 1 => (if ltr w p = 0 then [] else [96 + (ltr w p : Int)]) ++ nmL w p
def verL (w : Int64) (b : Bool) : List Int := [32] ++ nmL w 8 ++ (if b then [43] else [])
def rowL (σ : Nat → Int) (nm : Nat → Int64) (s p : Nat) : Nat → List Int
  | 0 => []
  | v + 1 => rowL σ nm s p v ++ (if σ (21 + v) = (p : Int) then verL (nm v) (s.testBit v) else [])
def repL (σ : Nat → Int) (nm : Nat → Int64) (s : Nat) : Nat → List Int
  | 0 => []
  | p + 1 => repL σ nm s p ++ [48 + (p : Int)] ++ [58] ++ rowL σ nm s p (σ 0).toNat ++ [10]
theorem nmL_len (w : Int64) : ∀ p, (nmL w p).length ≤ p
  | 0 => Nat.le_refl 0
  | p + 1 => by
    have := nmL_len w p
    unfold nmL
    rw [List.length_append]
    split
    · rw [List.length_nil]; omega
    · rw [List.length_singleton]; omega
theorem verL_len (w : Int64) (b : Bool) : (verL w b).length ≤ 10 := by
  have := nmL_len w 8
  unfold verL
  rw [List.length_append, List.length_append, List.length_singleton]
  split
  · rw [List.length_singleton]; omega
  · rw [List.length_nil]; omega
/-- how many vertices of the first n are in a part -/
def cP (σ : Nat → Int) (p : Int) (n : Nat) : Int := sm (fun v => if σ (21 + v) = p then 1 else 0) n
theorem cP_b (σ : Nat → Int) (p : Int) (n : Nat) : 0 ≤ cP σ p n := by
  have := (sm_bound (f := fun v => if σ (21 + v) = p then (1 : Int) else 0) (c := 1) (n := n) (fun k _ => by split <;> omega)).1
  exact this
theorem cP_mono (σ : Nat → Int) (p : Int) {m n : Nat} (h : m ≤ n) : cP σ p m ≤ cP σ p n := sm_le h (fun k _ => by split <;> omega)
theorem rowL_len (σ : Nat → Int) (nm : Nat → Int64) (s p : Nat) : ∀ n, ((rowL σ nm s p n).length : Int) ≤ 10 * cP σ (p : Int) n
  | 0 => by show ((0 : Nat) : Int) ≤ 10 * 0; decide
  | n + 1 => by
    have h := rowL_len σ nm s p n
    have e : cP σ (p : Int) (n + 1) = cP σ (p : Int) n + (if σ (21 + n) = (p : Int) then 1 else 0) := rfl
    unfold rowL
    rw [List.length_append, e]
    have := verL_len (nm n) (s.testBit n)
    by_cases c : σ (21 + n) = (p : Int)
    · rw [if_pos c, if_pos c]; omega
    · rw [if_neg c, if_neg c, List.length_nil]; omega
/-- how many vertices are in the parts below p -/
def cB (σ : Nat → Int) (p : Nat) : Int := sm (fun q => cP σ (q : Int) (σ 0).toNat) p
theorem cB_succ (σ : Nat → Int) (p : Nat) : cB σ (p + 1) = cB σ p + cP σ (p : Int) (σ 0).toNat := rfl
theorem cB_le {σ : Nat → Int} (hV : VS σ) : cB σ (σ 2).toNat = σ 0 := by
  have b0 := ms_0 hV.M
  have b2 := ms_2 hV.M
  have key : ∀ n : Nat, sm (fun _ => (1 : Int)) n = (n : Int) := fun n => by
    induction n with
    | zero => rfl
    | succ n ih => rw [sm_succ, ih]; omega
  unfold cB cP
  rw [smx_swap (fun q v => if σ (21 + v) = (q : Int) then 1 else 0)]
  refine (sm_cong (g := fun _ => (1 : Int)) (fun v hv => ?_)).trans ((key _).trans (by omega))
  have := hV.p hv
  exact smx_one (by omega)
theorem cB_mono (σ : Nat → Int) {p q : Nat} (h : p ≤ q) : cB σ p ≤ cB σ q := sm_le h (fun k _ => cP_b σ _ _)
theorem repL_len (σ : Nat → Int) (nm : Nat → Int64) (s : Nat) : ∀ p, ((repL σ nm s p).length : Int) ≤ 3 * (p : Int) + 10 * cB σ p
  | 0 => by show ((0 : Nat) : Int) ≤ 3 * ((0 : Nat) : Int) + 10 * 0; decide
  | p + 1 => by
    have h := repL_len σ nm s p
    have h2 := rowL_len σ nm s p (σ 0).toNat
    unfold repL
    rw [List.length_append, List.length_append, List.length_append, List.length_append, List.length_singleton, List.length_singleton, List.length_singleton, cB_succ]
    omega
/-- what there is room for -/
theorem room_p {σ : Nat → Int} (hV : VS σ) {p : Nat} (hp : p < (σ 2).toNat) : 0 ≤ cB σ p ∧ cB σ p + cP σ (p : Int) (σ 0).toNat ≤ 14 := by
  have b0 := ms_0 hV.M
  have h1 := cB_mono σ (p := p + 1) (q := (σ 2).toNat) (by omega)
  have h2 := cB_mono σ (p := 0) (q := p) (by omega)
  rw [cB_le hV, cB_succ] at h1
  have : cB σ 0 = 0 := rfl
  omega
/-- a row holds a list: the class's, the reference's -/
def hlC (I : Ii) (R : List Int) : Prop := I 100 17 = (R.length : Int) ∧ ∀ j, j < R.length → I 132 j = R.getD j 0
def hlS (I : Ii) (R : List Int) : Prop := I 0 46 = (R.length : Int) ∧ ∀ j, j < R.length → I 21 j = R.getD j 0
theorem getD_app {R : List Int} {b : Int} {j : Nat} (h : j < R.length) : (R ++ [b]).getD j 0 = R.getD j 0 := by
  rw [List.getD_eq_getElem?_getD, List.getD_eq_getElem?_getD, List.getElem?_append_left h]
theorem getD_end {R : List Int} {b : Int} : (R ++ [b]).getD R.length 0 = b := by
  rw [List.getD_eq_getElem?_getD, List.getElem?_append_right (Nat.le_refl _), Nat.sub_self]
  rfl
section RP
variable {I : Ii} {J : Jj} {σ : Nat → Int} {nm : Nat → Int64} {R : List Int} {Q : Ii → Jj → Prop}
theorem write_of {b : Int} (h : hlC I R) (hl : R.length < 152) (k : ∀ I' : Ii, hlC I' (R ++ [b]) → (∀ q, q ≠ 100 → q ≠ 132 → I' q = I q) → Q I' J) : wp_X11_write b I J Q := by
  refine put_of (n := 152) rfl h.1 hl (fun I1 e1 I2 e2 => k I2 ⟨?_, fun j hj => ?_⟩ (fun q h1 h2 => by rw [e2, up2_key h1, e1, up2_key h2]))
  · rw [e2, up2_self, e1, up2_key (by omega), h.1, List.length_append, List.length_singleton]; omega
  · rw [List.length_append, List.length_singleton] at hj
    rw [e2, up2_key (by omega), e1, up2_row]
    by_cases c : j = R.length
    · rw [c, updr_self, getD_end]
    · rw [updr_ne c, h.2 j (by omega), getD_app (by omega)]
theorem tell_of {b : Int} (h : hlS I R) (hl : R.length < 300) (k : ∀ I' : Ii, hlS I' (R ++ [b]) → (∀ q, q ≠ 0 → q ≠ 21 → I' q = I q) → (∀ i, i ≠ 46 → I' 0 i = I 0 i) → Q I' J) : wp_X12_tell b I J Q := by
  have h1 := h.1
  refine ⟨by omega, fun I1 e1 I2 e2 => k I2 ⟨?_, fun j hj => ?_⟩ (fun q h1 h2 => by rw [e2, up2_key h1, e1, up2_key h2]) (fun i hi => by rw [e2, up2_ne (by omega), e1, up2_key (by omega)])⟩
  · rw [e2, up2_self, e1, up2_key (by omega), h.1, List.length_append, List.length_singleton]; omega
  · rw [List.length_append, List.length_singleton] at hj
    rw [e2, up2_key (by omega), e1, up2_row, h1, Int.toNat_natCast]
    by_cases c : j = R.length
    · rw [c, updr_self, getD_end]
    · rw [updr_ne c, h.2 j (by omega), getD_app (by omega)]
theorem letterAt_of {w : Int64} {z : Int} {p : Nat} {Q : Int → Ii → Jj → Prop} (hw : GN w) (hp : p < 8) (hz : z = (p : Int)) (h1 : ltr w p ≠ 0 → Q (96 + (ltr w p : Int)) I J) (h0 : ltr w p = 0 → Q 0 I J) : wp_X10_letterAt w z I J Q := by
  have e := ltr_u hw.1 hp (z := z * 5) (by omega)
  unfold wp_X10_letterAt
  rw [e]
  refine ⟨fun c => ?_, fun c => h0 (by omega)⟩
  rw [show (ltr w p : Int) + 96 = 96 + (ltr w p : Int) by omega]
  exact h1 (by omega)
theorem c_wvL {w : Int64} {x y : Int} {b : Bool} (hw : GN w) (hy : y = if b then 1 else 0) : ∀ (p n : Nat) (I : Ii) (R : List Int), p ≤ 8 → p + 1 ≤ n → hlC I R → R.length + p + 1 ≤ 152 → (∀ I' : Ii, hlC I' (R ++ nmL w p ++ (if b then [43] else [])) → (∀ q, q ≠ 100 → q ≠ 132 → I' q = I q) → Q I' J) → L_X11_writeVertex_19 x y Q n w ((p : Int) - 1) I J := by
  intro p
  induction p with
  | zero =>
    intro n I R h1 h2 h3 h4 k
    obtain ⟨m, rfl⟩ : ∃ m, n = m + 1 := ⟨n - 1, by omega⟩
    refine ls_X11_writeVertex_19 ?_
    unfold Lb_X11_writeVertex_19
    refine ⟨rgK (by omega), fun _ => ⟨?_, fun c => ?_, fun c => ?_⟩, fun z => absurd (by omega) z⟩
    · rw [hy]; split <;> exact rgK (by omega)
    · cases b with
      | true => rw [hy] at c; exact absurd c (by decide)
      | false =>
        refine k I ?_ (fun _ _ _ => rfl)
        show hlC I (R ++ [] ++ [])
        rw [List.append_nil, List.append_nil]
        exact h3
    · cases b with
      | false => rw [hy] at c; exact absurd rfl c
      | true =>
        refine write_of h3 (by omega) (fun I5 h5 o5 => k I5 ?_ o5)
        show hlC I5 (R ++ [] ++ [43])
        rw [List.append_nil]
        exact h5
  | succ p ih =>
    intro n I R h1 h2 h3 h4 k
    obtain ⟨m, rfl⟩ : ∃ m, n = m + 1 := ⟨n - 1, by omega⟩
    refine ls_X11_writeVertex_19 ?_
    unfold Lb_X11_writeVertex_19
    have lb := ltr_b w p
    rw [show (((p + 1 : Nat)) : Int) - 1 = (p : Int) by omega]
    refine ⟨rgK (by omega), fun z => by omega, fun _ => letterAt_of hw (by omega) rfl (fun c => ⟨rgK (by omega), fun z => by omega, fun _ => ?_⟩) (fun c => ⟨rgK (by omega), fun _ => ?_, fun z => absurd rfl z⟩)⟩
    · refine write_of h3 (by omega) (fun I8 h8 o8 => ?_)
      have g := ih m I8 (R ++ [96 + (ltr w p : Int)]) (by omega) (by omega) h8 (by rw [List.length_append, List.length_singleton]; omega) (fun I' h' o' => k I' ?_ (fun q q1 q2 => (o' q q1 q2).trans (o8 q q1 q2)))
      · rwa [show (p : Int) + (-1) = (p : Int) - 1 by omega]
      · show hlC I' (R ++ ((if ltr w p = 0 then [] else [96 + (ltr w p : Int)]) ++ nmL w p) ++ _)
        rw [if_neg c, ← List.append_assoc]
        exact h'
    · have g := ih m I R (by omega) (by omega) h3 (by omega) (fun I' h' o' => k I' ?_ o')
      · rwa [show (p : Int) + (-1) = (p : Int) - 1 by omega]
      · show hlC I' (R ++ ((if ltr w p = 0 then [] else [96 + (ltr w p : Int)]) ++ nmL w p) ++ _)
        rw [if_pos c, List.nil_append]
        exact h'
theorem writeVertex_of {x y : Int} {v : Nat} {b : Bool} (hw : GN (J 201 v)) (hx : x = (v : Int)) (hv : v < 14) (hy : y = if b then 1 else 0) (h : hlC I R) (hl : R.length + 10 ≤ 152) (k : ∀ I' : Ii, hlC I' (R ++ verL (J 201 v) b) → (∀ q, q ≠ 100 → q ≠ 132 → I' q = I q) → Q I' J) : wp_X11_writeVertex x y I J Q := by
  subst hx
  refine write_of h (by omega) (fun I1 h1 o1 => ⟨gK200, rgK (by omega), fun z => by omega, fun _ => ⟨fun z => by omega, fun _ => ⟨by omega, 9, ?_⟩⟩⟩)
  rw [Int.toNat_natCast]
  have g := c_wvL (J := J) (Q := Q) (x := (v : Int)) (y := y) hw hy 8 9 I1 (R ++ [32]) (by omega) (by omega) h1 (by rw [List.length_append, List.length_singleton]; omega) (fun I' h' o' => k I' ?_ (fun q q1 q2 => (o' q q1 q2).trans (o1 q q1 q2)))
  · exact g
  · unfold verL
    rw [List.append_assoc [32], ← List.append_assoc R, ← List.append_assoc]
    exact h'
theorem s_tnL {w : Int64} (hw : GN w) : ∀ (p n : Nat) (I : Ii) (R : List Int), p ≤ 8 → p + 1 ≤ n → hlS I R → R.length + p ≤ 300 → (∀ I' : Ii, hlS I' (R ++ nmL w p) → (∀ q, q ≠ 0 → q ≠ 21 → I' q = I q) → (∀ i, i ≠ 46 → I' 0 i = I 0 i) → Q I' J) → L_X12_tellName_3 w Q n (5 * (p : Int) - 5) I J := by
  intro p
  induction p with
  | zero =>
    intro n I R h1 h2 h3 h4 k
    obtain ⟨m, rfl⟩ : ∃ m, n = m + 1 := ⟨n - 1, by omega⟩
    refine ls_X12_tellName_3 ?_
    unfold Lb_X12_tellName_3
    refine ⟨rgK (by omega), fun _ => k I ?_ (fun _ _ _ => rfl) (fun _ _ => rfl), fun z => absurd (by omega) z⟩
    show hlS I (R ++ [])
    rw [List.append_nil]
    exact h3
  | succ p ih =>
    intro n I R h1 h2 h3 h4 k
    obtain ⟨m, rfl⟩ : ∃ m, n = m + 1 := ⟨n - 1, by omega⟩
    refine ls_X12_tellName_3 ?_
    unfold Lb_X12_tellName_3
    have lb := ltr_b w p
    have hz : 5 * (((p + 1 : Nat)) : Int) - 5 = ((5 * p : Nat) : Int) := by omega
    rw [hz]
    have cs := cmp_s hw.1 (p := p) (by omega) rfl
    have lt := ltr_s hw.1 (p := p) (by omega) rfl
    refine ⟨rgK (by omega), fun z => by omega, fun _ => ⟨fun c => ?_, fun c => ?_⟩⟩
    · have c0 := cs.mp c
      have l0 : ltr w p = 0 := by unfold ltr; rw [c0]
      have g := ih m I R (by omega) (by omega) h3 (by omega) (fun I' h' o' o0 => k I' ?_ o' o0)
      · rwa [show ((5 * p : Nat) : Int) + (-5) = 5 * (p : Int) - 5 by omega]
      · show hlS I' (R ++ ((if ltr w p = 0 then [] else [96 + (ltr w p : Int)]) ++ nmL w p))
        rw [if_pos l0, List.nil_append]
        exact h'
    · have l0 : ¬ ltr w p = 0 := fun z => c (cs.mpr (hw.2 p (by omega) z))
      rw [lt]
      refine tell_of h3 (by omega) (fun I8 h8 o8 z8 => ?_)
      have g := ih m I8 (R ++ [96 + (ltr w p : Int)]) (by omega) (by omega) h8 (by rw [List.length_append, List.length_singleton]; omega) (fun I' h' o' o0 => k I' ?_ (fun q q1 q2 => (o' q q1 q2).trans (o8 q q1 q2)) (fun i hi => (o0 i hi).trans (z8 i hi)))
      · rwa [show ((5 * p : Nat) : Int) + (-5) = 5 * (p : Int) - 5 by omega]
      · show hlS I' (R ++ ((if ltr w p = 0 then [] else [96 + (ltr w p : Int)]) ++ nmL w p))
        rw [if_neg l0, ← List.append_assoc]
        exact h'
theorem tellName_of {w : Int64} (hw : GN w) (h : hlS I R) (hl : R.length + 8 ≤ 300) (k : ∀ I' : Ii, hlS I' (R ++ nmL w 8) → (∀ q, q ≠ 0 → q ≠ 21 → I' q = I q) → (∀ i, i ≠ 46 → I' 0 i = I 0 i) → Q I' J) : wp_X12_tellName w I J Q :=
  ⟨9, s_tnL hw 8 9 I R (by omega) (by omega) h hl k⟩
end RP
