/-! ===== what a grown text says: statements ===== -/
section STN
variable {B : Nat → Int} {E p q : Nat} {σ : Nat → Int} {nm : Nat → Int64} {T : Nat}
theorem stb_v {t : St} (h1 : tK B E t.2.2.2 = 1) (h2 : tW B E t.2.2.2 = lZ 744050872) : stb B E t = vtx B E t.1 t.2.1 t.2.2.1 (tE B E t.2.2.2) (tS B E t.2.2.2) := by
  unfold stb
  rw [if_pos ⟨h1, h2⟩]
theorem stb_e {t : St} (h1 : tK B E t.2.2.2 = 1) (h2 : tW B E t.2.2.2 = lZ 168165) : stb B E t = edg B E t.1 t.2.1 t.2.2.1 (tE B E t.2.2.2) (tS B E t.2.2.2) := by
  unfold stb
  rw [if_neg (fun z => absurd (h2.symm.trans z.2) (by decide +kernel)), if_pos ⟨h1, h2⟩]
theorem stb_0 {t : St} (h1 : tK B E t.2.2.2 = 1) (h2 : tW B E t.2.2.2 = lZ 16829075) : stb B E t = onc B E 0 2 4 t.1 t.2.1 t.2.2.1 (tE B E t.2.2.2) (tS B E t.2.2.2) := by
  unfold stb
  rw [if_neg (fun z => absurd (h2.symm.trans z.2) (by decide +kernel)), if_neg (fun z => absurd (h2.symm.trans z.2) (by decide +kernel)), if_pos ⟨h1, h2⟩]
theorem stb_1 {t : St} (h1 : tK B E t.2.2.2 = 1) (h2 : tW B E t.2.2.2 = lZ 20317291) : stb B E t = onc B E 1 0 99 t.1 t.2.1 t.2.2.1 (tE B E t.2.2.2) (tS B E t.2.2.2) := by
  unfold stb
  rw [if_neg (fun z => absurd (h2.symm.trans z.2) (by decide +kernel)), if_neg (fun z => absurd (h2.symm.trans z.2) (by decide +kernel)), if_neg (fun z => absurd (h2.symm.trans z.2) (by decide +kernel)), if_pos ⟨h1, h2⟩]
theorem stb_2 {t : St} (h1 : tK B E t.2.2.2 = 1) (h2 : tW B E t.2.2.2 = lZ 119705908) : stb B E t = onc B E 2 0 99 t.1 t.2.1 t.2.2.1 (tE B E t.2.2.2) (tS B E t.2.2.2) := by
  unfold stb
  rw [if_neg (fun z => absurd (h2.symm.trans z.2) (by decide +kernel)), if_neg (fun z => absurd (h2.symm.trans z.2) (by decide +kernel)), if_neg (fun z => absurd (h2.symm.trans z.2) (by decide +kernel)), if_neg (fun z => absurd (h2.symm.trans z.2) (by decide +kernel)), if_pos ⟨h1, h2⟩]
/-- the words that begin a statement with one number, and what they set -/
abbrev isOne (W : List Int) (w : Nat) (lo hi : Int) : Prop := (W = [112, 97, 114, 116, 115] ∧ w = 0 ∧ lo = 2 ∧ hi = 4) ∨ (W = [115, 108, 97, 99, 107] ∧ w = 1 ∧ lo = 0 ∧ hi = 99) ∨ (W = [99, 114, 101, 100, 105, 116] ∧ w = 2 ∧ lo = 0 ∧ hi = 99)
theorem isOne.f {W : List Int} {w : Nat} {lo hi : Int} (h : isOne W w lo hi) : (∀ i, i < W.length → isLe (W.getD i 0)) ∧ (0 < W.length ∧ W.length ≤ 8) := by
  rcases h with ⟨rfl, -⟩ | ⟨rfl, -⟩ | ⟨rfl, -⟩ <;> exact ⟨by decide, by decide⟩
theorem isOne.stb {W : List Int} {w : Nat} {lo hi : Int} (h : isOne W w lo hi) {t : St} (h1 : tK B E t.2.2.2 = 1) (h2 : tW B E t.2.2.2 = wv (gB W) 0 W.length) : stb B E t = onc B E w lo hi t.1 t.2.1 t.2.2.1 (tE B E t.2.2.2) (tS B E t.2.2.2) := by
  rcases h with ⟨rfl, rfl, rfl, rfl⟩ | ⟨rfl, rfl, rfl, rfl⟩ | ⟨rfl, rfl, rfl, rfl⟩
  · exact stb_0 h1 (h2.trans (by decide +kernel))
  · exact stb_1 h1 (h2.trans (by decide +kernel))
  · exact stb_2 h1 (h2.trans (by decide +kernel))
/-- one number is set -/
theorem st_one {W : List Int} {w : Nat} {lo hi x : Int} (ho : isOne W w lo hi) (h : atL B q (W ++ ([32] ++ (dgL x ++ [59])))) (hx : (lo ≤ x ∧ x ≤ hi) ∧ 0 ≤ x ∧ x < 100) (hT : T.testBit w = false) (hE : q + (W ++ ([32] ++ (dgL x ++ [59]))).length ≤ E) (h1 : p ≤ q) (hb : ∀ i, p ≤ i → i < q → isBl (B i)) : tK B E p ≠ 0 ∧ stm B E (σ, nm, T, p) = .ok (updr σ (w + 2) x, nm, T ||| 2 ^ w, q + (W ++ ([32] ++ (dgL x ++ [59]))).length) := by
  have hEl : (W ++ ([32] ++ (dgL x ++ [59]))).length = W.length + (1 + ((dgL x).length + 1)) := by
    simp only [List.length_append]
    rfl
  rw [hEl] at hE ⊢
  obtain ⟨hW, h⟩ := atL_app h
  obtain ⟨hB, h⟩ := atL_app h
  obtain ⟨hD, hS⟩ := atL_app h
  have c32 : B (q + W.length) = 32 := hB 0 (by simp)
  have e1 : q + W.length + [(32 : Int)].length = q + W.length + 1 := rfl
  rw [e1] at hD hS
  have hS1 : q + W.length + 1 + (dgL x).length + [(59 : Int)].length ≤ E := by
    show q + W.length + 1 + (dgL x).length + 1 ≤ E
    omega
  obtain ⟨s1, s2, s3, s4, s5, s6⟩ := at_semi (E := E) hS (Or.inl ⟨rfl, rfl⟩) hS1
  obtain ⟨w1, w2, w3, w4⟩ := at_word (E := E) (p := p) hW c32 ho.f.1 ho.f.2 (by omega) h1 hb
  obtain ⟨n1, n2, n3, n4⟩ := at_num (E := E) (p := q + W.length) hD hx.2 (by omega) s1 (by omega) (fun i a b => by rw [show i = q + W.length by omega, c32]; decide)
  refine ⟨by rw [w3]; decide, ?_⟩
  have r : stb B E (σ, nm, T, p) = .ok (updr σ (w + 2) x, nm, T ||| 2 ^ w, q + W.length + 1 + (dgL x).length) := by
    rw [ho.stb (t := (σ, nm, T, p)) w3 w4]
    dsimp only
    rw [w2]
    unfold onc
    rw [if_neg (by rw [hT]; decide), if_neg (fun z => z ⟨n3, by rw [n4]; exact hx.1⟩), n4, n2]
  unfold stm
  rw [r]
  unfold semi
  dsimp only
  rw [if_pos s2, s3]
  congr 4
  omega
/-- one more vertex -/
theorem st_vtx {v k : Nat} {tl : List Int} {x : Int} (htl : isTl tl k) (h : atL B q ([118, 101, 114, 116, 101, 120] ++ ([32] ++ (nmL v ++ ([32] ++ (dgL x ++ tl)))))) (hx : 1 ≤ x ∧ x ≤ 99) (hv : σ 0 = (v : Int)) (hv14 : v < 14) (hnm : ∀ u, u < v → nm u = nmW u) (hE : q + ([118, 101, 114, 116, 101, 120] ++ ([32] ++ (nmL v ++ ([32] ++ (dgL x ++ tl))))).length ≤ E) (h1 : p ≤ q) (hb : ∀ i, p ≤ i → i < q → isBl (B i)) : tK B E p ≠ 0 ∧ stm B E (σ, nm, T, p) = .ok (addV σ x, updr nm v (nmW v), T, q + (10 + (dgL x).length + k)) ∧ ∀ i, q + (10 + (dgL x).length + k) ≤ i → i < q + (10 + (dgL x).length + tl.length) → isBl (B i) := by
  have hEl : ([118, 101, 114, 116, 101, 120] ++ ([32] ++ (nmL v ++ ([32] ++ (dgL x ++ tl))))).length = 6 + (1 + (2 + (1 + ((dgL x).length + tl.length)))) := by
    simp only [List.length_append]
    rfl
  rw [hEl] at hE
  obtain ⟨hW, h⟩ := atL_app h
  obtain ⟨hB, h⟩ := atL_app h
  obtain ⟨hN, h⟩ := atL_app h
  obtain ⟨hB2, h⟩ := atL_app h
  obtain ⟨hD, hS⟩ := atL_app h
  have c32 : B (q + 6) = 32 := hB 0 (by simp)
  have c32b : B (q + 9) = 32 := hB2 0 (by simp)
  replace hN : atL B (q + 7) (nmL v) := hN
  replace hD : atL B (q + 10) (dgL x) := hD
  replace hS : atL B (q + 10 + (dgL x).length) tl := hS
  obtain ⟨s1, s2, s3, s4, s5, s6⟩ := at_semi (E := E) hS htl (by omega)
  obtain ⟨w1, w2, w3, w4⟩ := at_word (E := E) (p := p) hW c32 (by decide) (by decide) (by show q + 6 < E; omega) h1 hb
  replace w2 : tE B E p = q + 6 := w2
  obtain ⟨m1, m2, m3, m4⟩ := at_name (E := E) (p := q + 6) hN c32b hv14 (by omega) (by omega) (fun i a b => by rw [show i = q + 6 by omega, c32]; decide)
  obtain ⟨n1, n2, n3, n4⟩ := at_num (E := E) (p := q + 7 + 2) hD (by omega) (by omega) s1 (by omega) (fun i a b => by rw [show i = q + 9 by omega, c32b]; decide)
  refine ⟨by rw [w3]; decide, ?_, fun i a b => s5 i (by omega) (by omega)⟩
  have r : stb B E (σ, nm, T, p) = .ok (addV σ x, updr nm v (nmW v), T, q + 10 + (dgL x).length) := by
    rw [stb_v (t := (σ, nm, T, p)) w3 (w4.trans (by decide +kernel))]
    dsimp only
    rw [w2]
    unfold vtx
    have hno : nmZ nm (nmW v) v = -1 := nmZ_none (fun u hu z2 => by
      rw [hnm u hu] at z2
      have := nmW_inj ⟨u, by omega⟩ ⟨v, hv14⟩ z2
      dsimp only at this
      omega)
    rw [hv, if_neg (by omega), if_neg (fun z => z m3), m4, Int.toNat_natCast, if_neg (fun z => z hno), m2, if_neg (fun z => z ⟨n3, by rw [n4]; exact hx⟩), n4, n2]
  unfold stm
  rw [r]
  unfold semi
  dsimp only
  rw [if_pos s2, s3]
  congr 4
  omega
/-- one more edge -/
theorem st_edg {a b : Nat} {x : Int} (h : atL B q ([101, 100, 103, 101] ++ ([32] ++ (nmL a ++ ([32] ++ (nmL b ++ ([32] ++ (dgL x ++ [59])))))))) (hx : 1 ≤ x ∧ x ≤ 99) (hn : 0 ≤ σ 0 ∧ σ 0 ≤ 14) (h40 : σ 1 ≠ 40) (ha : (a : Int) < σ 0) (hbn : (b : Int) < σ 0) (hab : a ≠ b) (hno : edgeZ σ (a : Int) (b : Int) (σ 1).toNat = -1) (hnm : ∀ u, u < (σ 0).toNat → nm u = nmW u) (hE : q + ([101, 100, 103, 101] ++ ([32] ++ (nmL a ++ ([32] ++ (nmL b ++ ([32] ++ (dgL x ++ [59]))))))).length ≤ E) (h1 : p ≤ q) (hb : ∀ i, p ≤ i → i < q → isBl (B i)) : tK B E p ≠ 0 ∧ stm B E (σ, nm, T, p) = .ok (addE σ (a : Int) (b : Int) x, nm, T, q + (11 + (dgL x).length + 1)) := by
  have hEl : ([101, 100, 103, 101] ++ ([32] ++ (nmL a ++ ([32] ++ (nmL b ++ ([32] ++ (dgL x ++ [59]))))))).length = 4 + (1 + (2 + (1 + (2 + (1 + ((dgL x).length + 1)))))) := by
    simp only [List.length_append]
    rfl
  rw [hEl] at hE
  obtain ⟨hW, h⟩ := atL_app h
  obtain ⟨hB, h⟩ := atL_app h
  obtain ⟨hN, h⟩ := atL_app h
  obtain ⟨hB2, h⟩ := atL_app h
  obtain ⟨hN2, h⟩ := atL_app h
  obtain ⟨hB3, h⟩ := atL_app h
  obtain ⟨hD, hS⟩ := atL_app h
  have c32 : B (q + 4) = 32 := hB 0 (by simp)
  have c32b : B (q + 7) = 32 := hB2 0 (by simp)
  have c32c : B (q + 10) = 32 := hB3 0 (by simp)
  replace hN : atL B (q + 5) (nmL a) := hN
  replace hN2 : atL B (q + 8) (nmL b) := hN2
  replace hD : atL B (q + 11) (dgL x) := hD
  replace hS : atL B (q + 11 + (dgL x).length) [59] := hS
  obtain ⟨s1, s2, s3, s4, s5, s6⟩ := at_semi (E := E) hS (Or.inl ⟨rfl, rfl⟩) (by show q + 11 + (dgL x).length + 1 ≤ E; omega)
  obtain ⟨w1, w2, w3, w4⟩ := at_word (E := E) (p := p) hW c32 (by decide) (by decide) (by show q + 4 < E; omega) h1 hb
  replace w2 : tE B E p = q + 4 := w2
  obtain ⟨m1, m2, m3, m4⟩ := at_name (E := E) (p := q + 4) hN c32b (by omega) (by omega) (by omega) (fun i a b => by rw [show i = q + 4 by omega, c32]; decide)
  obtain ⟨l1, l2, l3, l4⟩ := at_name (E := E) (p := q + 5 + 2) hN2 c32c (by omega) (by omega) (by omega) (fun i a b => by rw [show i = q + 7 by omega, c32b]; decide)
  obtain ⟨n1, n2, n3, n4⟩ := at_num (E := E) (p := q + 8 + 2) hD (by omega) (by omega) s1 (by omega) (fun i a b => by rw [show i = q + 10 by omega, c32c]; decide)
  have look : ∀ c : Nat, (c : Int) < σ 0 → nmZ nm (nmW c) (σ 0).toNat = (c : Int) := fun c hc => nmZ_eq (by omega) (hnm c (by omega)) (fun u hu z => by
    rw [hnm u hu] at z
    have := nmW_inj ⟨u, by omega⟩ ⟨c, by omega⟩ z
    exact this)
  refine ⟨by rw [w3]; decide, ?_⟩
  have r : stb B E (σ, nm, T, p) = .ok (addE σ (a : Int) (b : Int) x, nm, T, q + 11 + (dgL x).length) := by
    rw [stb_e (t := (σ, nm, T, p)) w3 (w4.trans (by decide +kernel))]
    dsimp only
    rw [w2]
    unfold edg
    rw [if_neg h40, if_neg (fun z => z m3), m4, m2, l4, look a ha, look b hbn, if_neg (by omega), if_neg (fun z => z l3), if_neg (by omega), if_neg (by omega), if_neg (fun z => z hno), l2, if_neg (fun z => z ⟨n3, by rw [n4]; exact hx⟩), n4, n2]
  unfold stm
  rw [r]
  unfold semi
  dsimp only
  rw [if_pos s2, s3]
  congr 4
  omega
end STN
/-! ===== a text that is being written, and what it says so far ===== -/
def zrR : Nat → Int := fun i => if i = 2 then 2 else 0
def nm0 : Nat → Int64 := fun _ => lZ 0
theorem zrR_Z : Z0 zrR := fun _ _ => rfl
def RdT (L : List Int) (t : St) (c : Nat) : Prop := c ≤ L.length ∧ t.2.2.2 ≤ L.length ∧ (∀ i, t.2.2.2 ≤ i → i < L.length → isBl (gB L i)) ∧ ∀ (M : List Int) (f : Nat), txt (gB (L ++ M)) (L ++ M).length (f + c) (zrR, nm0, 0, 0) = txt (gB (L ++ M)) (L ++ M).length f t
theorem RdT.nil : RdT [] (zrR, nm0, 0, 0) 0 := ⟨Nat.le_refl _, Nat.le_refl _, fun i _ h => absurd h (Nat.not_lt_zero _), fun _ _ => rfl⟩
theorem gB_l {L M : List Int} {i : Nat} (h : i < L.length) : gB (L ++ M) i = gB L i := gd_l h
theorem RdT.step {L W : List Int} {t t' : St} {c : Nat} (h : RdT L t c) (hW : 0 < W.length) (hp : t'.2.2.2 ≤ (L ++ W).length) (hbl : ∀ i, t'.2.2.2 ≤ i → i < (L ++ W).length → isBl (gB (L ++ W) i))
    (hs : ∀ (B : Nat → Int) (E : Nat), atL B L.length W → L.length + W.length ≤ E → (∀ i, t.2.2.2 ≤ i → i < L.length → isBl (B i)) → tK B E t.2.2.2 ≠ 0 ∧ stm B E t = .ok t') : RdT (L ++ W) t' (c + 1) := by
  obtain ⟨h1, h2, h3, h4⟩ := h
  refine ⟨by rw [List.length_append]; omega, hp, hbl, fun M f => ?_⟩
  rw [List.append_assoc, show f + (c + 1) = (f + 1) + c by omega, h4 (W ++ M) (f + 1)]
  obtain ⟨g1, g2⟩ := hs (gB (L ++ (W ++ M))) (L ++ (W ++ M)).length (atL_of L W M) (by rw [List.length_append, List.length_append]; omega) (fun i a b => by rw [gB_l b]; exact h3 i a b)
  show (if tK (gB (L ++ (W ++ M))) (L ++ (W ++ M)).length t.2.2.2 = 0 then _ else _) = _
  rw [if_neg g1, g2]
theorem RdT.done {L : List Int} {t : St} {c : Nat} (h : RdT L t c) : txt (gB L) L.length (L.length + 1) (zrR, nm0, 0, 0) = .ok t := by
  obtain ⟨h1, h2, h3, h4⟩ := h
  have := h4 [] (L.length - c + 1)
  rw [List.append_nil, show L.length - c + 1 + c = L.length + 1 by omega] at this
  rw [this]
  show (if tK (gB L) L.length t.2.2.2 = 0 then _ else _) = _
  rw [if_pos (tk_end h2 h3)]
