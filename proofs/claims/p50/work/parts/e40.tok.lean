/-! ===== what a grown text says: tokens, statements ===== -/
section TKS
variable {B : Nat → Int} {E p s e : Nat}
theorem tk_s (h1 : p ≤ s) (h3 : s < E) (hb : ∀ i, p ≤ i → i < s → isBl (B i)) (hn : ¬ isBl (B s)) : tS B E p = s := by
  unfold tS
  exact ru_eq h1 (by omega) hb (fun _ => hn)
theorem tk_end (h1 : p ≤ E) (hb : ∀ i, p ≤ i → i < E → isBl (B i)) : tK B E p = 0 := by
  have : tS B E p = E := by
    unfold tS
    exact ru_eq h1 (by omega) hb (fun z => by omega)
  unfold tK kS
  rw [this, if_pos (Nat.le_refl _)]
theorem tk_word (h1 : p ≤ s) (h2 : s < e) (h3 : e < E) (hb : ∀ i, p ≤ i → i < s → isBl (B i)) (hl : ∀ i, s ≤ i → i < e → isLe (B i)) (hn : ¬ isLe (B e)) (h8 : e ≤ s + 8) : tS B E p = s ∧ tE B E p = e ∧ tK B E p = 1 ∧ tW B E p = wv B s (e - s) := by
  have l0 := hl s (Nat.le_refl _) h2
  have a : tS B E p = s := tk_s h1 (by omega) hb (by omega)
  have r : eS B E s = e := by
    unfold eS
    rw [if_neg (by omega), if_pos l0]
    exact ru_eq (by omega) (by omega) hl (fun _ => hn)
  have b : tE B E p = e := by unfold tE; rw [a]; exact r
  refine ⟨a, b, ?_, ?_⟩
  · unfold tK kS
    rw [a, r, if_neg (by omega), if_pos l0, if_pos (by omega)]
  · unfold tW
    rw [a, b]
theorem tk_num (h1 : p ≤ s) (h2 : s < e) (h3 : e < E) (hb : ∀ i, p ≤ i → i < s → isBl (B i)) (hl : ∀ i, s ≤ i → i < e → isDi (B i)) (hn : ¬ isDi (B e)) (h8 : e ≤ s + 3) : tS B E p = s ∧ tE B E p = e ∧ tK B E p = 2 ∧ tN B E p = nv B s (e - s) := by
  have l0 := hl s (Nat.le_refl _) h2
  have a : tS B E p = s := tk_s h1 (by omega) hb (by omega)
  have r : eS B E s = e := by
    unfold eS
    rw [if_neg (by omega), if_neg (by omega), if_pos l0]
    exact ru_eq (by omega) (by omega) hl (fun _ => hn)
  have b : tE B E p = e := by unfold tE; rw [a]; exact r
  refine ⟨a, b, ?_, ?_⟩
  · unfold tK kS
    rw [a, r, if_neg (by omega), if_neg (by omega), if_pos l0, if_pos (by omega)]
  · unfold tN
    rw [a, b]
theorem tk_semi (h1 : p ≤ s) (h3 : s < E) (hb : ∀ i, p ≤ i → i < s → isBl (B i)) (hv : B s = 59) : tS B E p = s ∧ tE B E p = s + 1 ∧ tK B E p = 3 := by
  have a : tS B E p = s := tk_s h1 h3 hb (by rw [hv]; decide)
  have r : eS B E s = s + 1 := by
    unfold eS
    rw [if_neg (by omega), hv, if_neg (by decide), if_neg (by decide)]
  have b : tE B E p = s + 1 := by unfold tE; rw [a]; exact r
  refine ⟨a, b, ?_⟩
  unfold tK kS
  rw [a, if_neg (by omega), hv, if_neg (by decide), if_neg (by decide), if_pos rfl]
end TKS
/-! ===== words, numbers, as lists ===== -/
def gB (L : List Int) : Nat → Int := fun j => L.getD j 0
def dgL (x : Int) : List Int := if x < 10 then [48 + x] else [48 + x / 10, 48 + x % 10]
theorem dgL_len (x : Int) : (dgL x).length = if x < 10 then 1 else 2 := by unfold dgL; split <;> rfl
theorem gd_l {α : Type} {L M : List α} {d : α} {i : Nat} (h : i < L.length) : (L ++ M).getD i d = L.getD i d := by rw [List.getD_eq_getElem?_getD, List.getD_eq_getElem?_getD, List.getElem?_append_left h]
theorem gd_r {α : Type} {L M : List α} {d : α} {i : Nat} (h : L.length ≤ i) : (L ++ M).getD i d = M.getD (i - L.length) d := by rw [List.getD_eq_getElem?_getD, List.getD_eq_getElem?_getD, List.getElem?_append_right h]
/-- from q on the list stands there -/
def atL (B : Nat → Int) (q : Nat) (W : List Int) : Prop := ∀ i, i < W.length → B (q + i) = W.getD i 0
theorem atL_app {B : Nat → Int} {q : Nat} {W V : List Int} (h : atL B q (W ++ V)) : atL B q W ∧ atL B (q + W.length) V := by
  refine ⟨fun i hi => ?_, fun i hi => ?_⟩
  · rw [h i (by rw [List.length_append]; omega), gd_l hi]
  · rw [show q + W.length + i = q + (W.length + i) by omega, h _ (by rw [List.length_append]; omega), gd_r (by omega)]
    congr 1
    omega
theorem atL_of (P W M : List Int) : atL (gB (P ++ (W ++ M))) P.length W := by
  intro i hi
  show (P ++ (W ++ M)).getD (P.length + i) 0 = _
  rw [gd_r (by omega), show P.length + i - P.length = i by omega, gd_l hi]
/-- the name of a vertex, as a word -/
def nmW (v : Nat) : Int64 := (shlL ((shlL (lZ 0) 5) ||| (i2lZ (118 - 96))) 5) ||| (i2lZ (97 + (v : Int) - 96))
theorem nmW_inj : ∀ u v : Fin 14, nmW u.val = nmW v.val → u.val = v.val := by decide +kernel
section STM
variable {B : Nat → Int} {E p q : Nat}
/-- a number, and what stands behind it -/
theorem at_num {x : Int} (hd : atL B q (dgL x)) (hx : 0 ≤ x ∧ x < 100) (hE : q + (dgL x).length < E) (hc : B (q + (dgL x).length) = 59 ∨ B (q + (dgL x).length) = 32) (h1 : p ≤ q) (hb : ∀ i, p ≤ i → i < q → isBl (B i)) : tS B E p = q ∧ tE B E p = q + (dgL x).length ∧ tK B E p = 2 ∧ tN B E p = x := by
  have hn : ¬ isDi (B (q + (dgL x).length)) := by rcases hc with z | z <;> rw [z] <;> decide
  clear hc
  by_cases c1 : x < 10
  · have e : dgL x = [48 + x] := if_pos c1
    rw [e] at hd hE hn ⊢
    have b0 : B q = 48 + x := hd 0 (by simp)
    obtain ⟨r1, r2, r3, r4⟩ := tk_num (B := B) (E := E) (p := p) (s := q) (e := q + 1) h1 (by omega) hE hb (fun i a b => by rw [show i = q by omega, b0]; omega) hn (by omega)
    refine ⟨r1, r2, r3, ?_⟩
    rw [r4, show q + 1 - q = 1 by omega]
    show (0 : Int) * 10 + B (q + 0) - 48 = x
    rw [show q + 0 = q from rfl, b0]
    omega
  · have e : dgL x = [48 + x / 10, 48 + x % 10] := if_neg c1
    rw [e] at hd hE hn ⊢
    have b0 : B q = 48 + x / 10 := hd 0 (by simp)
    have b1 : B (q + 1) = 48 + x % 10 := hd 1 (by simp)
    obtain ⟨r1, r2, r3, r4⟩ := tk_num (B := B) (E := E) (p := p) (s := q) (e := q + 2) h1 (by omega) hE hb (fun i a b => by
      have : i = q ∨ i = q + 1 := by omega
      rcases this with z | z
      · rw [z, b0]; omega
      · rw [z, b1]; omega) hn (by omega)
    refine ⟨r1, r2, r3, ?_⟩
    rw [r4, show q + 2 - q = 2 by omega]
    show ((0 : Int) * 10 + B (q + 0) - 48) * 10 + B (q + 1) - 48 = x
    rw [show q + 0 = q from rfl, b0, b1]
    omega
/-- a vertex' name -/
def nmL (v : Nat) : List Int := [118, 97 + (v : Int)]
theorem at_name {v : Nat} (h : atL B q (nmL v)) (hc : B (q + 2) = 32) (hv : v < 14) (hE : q + 2 < E) (h1 : p ≤ q) (hb : ∀ i, p ≤ i → i < q → isBl (B i)) : tS B E p = q ∧ tE B E p = q + 2 ∧ tK B E p = 1 ∧ tW B E p = nmW v := by
  have b0 : B q = 118 := h 0 (by simp [nmL])
  have b1 : B (q + 1) = 97 + (v : Int) := h 1 (by simp [nmL])
  obtain ⟨r1, r2, r3, r4⟩ := tk_word (B := B) (E := E) (p := p) (s := q) (e := q + 2) h1 (by omega) hE hb (fun i a b => by
      have : i = q ∨ i = q + 1 := by omega
      rcases this with z | z
      · rw [z, b0]; decide
      · rw [z, b1]; omega) (by rw [hc]; decide) (by omega)
  refine ⟨r1, r2, r3, ?_⟩
  rw [r4, show q + 2 - q = 2 by omega]
  show (shlL ((shlL (lZ 0) 5) ||| (i2lZ (B (q + 0) - 96))) 5) ||| (i2lZ (B (q + 1) - 96)) = nmW v
  rw [show q + 0 = q from rfl, b0, b1]
  rfl
/-- a word of letters, written out -/
theorem at_word {W : List Int} (hd : atL B q W) (hc : B (q + W.length) = 32) (hl : ∀ i, i < W.length → isLe (W.getD i 0)) (h0 : 0 < W.length ∧ W.length ≤ 8) (hE : q + W.length < E) (h1 : p ≤ q) (hb : ∀ i, p ≤ i → i < q → isBl (B i)) : tS B E p = q ∧ tE B E p = q + W.length ∧ tK B E p = 1 ∧ tW B E p = wv (gB W) 0 W.length := by
  obtain ⟨r1, r2, r3, r4⟩ := tk_word (B := B) (E := E) (p := p) (s := q) (e := q + W.length) h1 (by omega) hE hb (fun i a b => by
      have e : i = q + (i - q) := by omega
      rw [e, hd (i - q) (by omega)]
      exact hl _ (by omega)) (by rw [hc]; decide) (by omega)
  refine ⟨r1, r2, r3, ?_⟩
  rw [r4, show q + W.length - q = W.length by omega]
  have key : ∀ n, n ≤ W.length → wv B q n = wv (gB W) 0 n := by
    intro n
    induction n with
    | zero => intro _; rfl
    | succ n ih =>
      intro hn
      show (shlL (wv B q n) 5) ||| (i2lZ (B (q + n) - 96)) = (shlL (wv (gB W) 0 n) 5) ||| (i2lZ (gB W (0 + n) - 96))
      rw [ih (by omega), hd n (by omega), show 0 + n = n by omega]
      rfl
  exact key _ (Nat.le_refl _)
/-- the mark behind a statement -/
abbrev isTl (W : List Int) (k : Nat) : Prop := (W = [59] ∧ k = 1) ∨ (W = [32, 59, 10] ∧ k = 2)
theorem at_semi {W : List Int} {k : Nat} (h : atL B q W) (hW : isTl W k) (hE : q + W.length ≤ E) : (B q = 59 ∨ B q = 32) ∧ tK B E q = 3 ∧ tE B E q = q + k ∧ k ≤ W.length ∧ (∀ i, q + k ≤ i → i < q + W.length → isBl (B i)) ∧ 0 < W.length := by
  rcases hW with ⟨rfl, rfl⟩ | ⟨rfl, rfl⟩
  · have b0 : B q = 59 := h 0 (by simp)
    obtain ⟨r1, r2, r3⟩ := tk_semi (B := B) (E := E) (p := q) (s := q) (Nat.le_refl _) (by have : q + 1 ≤ E := hE; omega) (fun i a b => by omega) b0
    exact ⟨Or.inl b0, r3, r2, Nat.le_refl _, fun i a b => by have : i < q + 1 := b; omega, by decide⟩
  · have b0 : B q = 32 := h 0 (by simp)
    have b1 : B (q + 1) = 59 := h 1 (by simp)
    have b2 : B (q + 2) = 10 := h 2 (by simp)
    have hE : q + 3 ≤ E := hE
    obtain ⟨r1, r2, r3⟩ := tk_semi (B := B) (E := E) (p := q) (s := q + 1) (by omega) (by omega) (fun i a b => by rw [show i = q by omega, b0]; decide) b1
    refine ⟨Or.inr b0, r3, r2, by decide, fun i a b => ?_, by decide⟩
    have b : i < q + 3 := b
    rw [show i = q + 2 by omega, b2]; decide
end STM
