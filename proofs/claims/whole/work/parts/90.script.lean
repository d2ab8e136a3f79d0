/-! ===== what a script says ===== -/
abbrev Sc := (Nat → Int) × (Nat → Int) × (Nat → Int) × Nat × Nat × Nat × Nat × (Nat → Nat)
abbrev SR := Except (Int × Nat × Nat) Sc
def PO2 (x : SR) (bad : Int → Nat → Nat → Prop) (good : Sc → Prop) : Prop := match x with
  | .error e => bad e.1 e.2.1 e.2.2
  | .ok t => good t
def kW (B : Nat → Int) (E p : Nat) : Int := if isW B E p (lZ 646522315) then 0 else if isW B E p (lZ 248311) then 1 else if isW B E p (lZ 442053) then 2 else if isW B E p (lZ 643248) then 3 else if isW B E p (lZ 20583955) then 4 else if isW B E p (lZ 71284) then 5 else if isW B E p (lZ 1574484) then 6 else if isW B E p (lZ 119705908) then 7 else if isW B E p (lZ 609752116) then 8 else -1
abbrev vOK (B : Nat → Int) (E : Nat) (nm : Nat → Int64) (m q : Nat) : Prop := tK B E q = 1 ∧ nmZ nm (tW B E q) m ≠ -1
def vC (B : Nat → Int) (E q : Nat) : Int := if tK B E q = 1 then 3 else 1
section SP
variable (B : Nat → Int) (E : Nat) (nm : Nat → Int64) (m : Nat) (K A C : Nat → Int) (n w d : Nat) (O : Nat → Nat)
def addS (q : Nat) (k a c : Int) (dw : Nat) : SR := if tK B E q = 3 then .ok (updr K n k, updr A n a, updr C n c, n + 1, w + dw, d, tE B E q, O) else .error (1, tS B E q, d)
def repS (q : Nat) : SR := if ¬ nOK B E 1 20 q then .error (numC B E q, tS B E q, d) else if tK B E (tE B E q) ≠ 4 then .error (1, tS B E (tE B E q), d)
  else .ok (updr K n 8, updr A n (tN B E q), updr C n 0, n + 1, w + 1, d + 1, tE B E (tE B E q), fun i => if i = d then n else O i)
def movS (q : Nat) : SR := if ¬ nOK B E 0 999 q then .error (numC B E q, tS B E q, d) else if ¬ nOK B E 0 999 (tE B E q) then .error (numC B E (tE B E q), tS B E (tE B E q), d)
  else addS B E K A C n w d O (tE B E (tE B E q)) 2 (tN B E q) (tN B E (tE B E q)) 1
def numS (k : Int) (q : Nat) : SR := if ¬ nOK B E 0 999 q then .error (numC B E q, tS B E q, d) else addS B E K A C n w d O (tE B E q) k (tN B E q) 0 1
def apaS (q : Nat) : SR := if ¬ vOK B E nm m q then .error (vC B E q, tS B E q, d) else if ¬ vOK B E nm m (tE B E q) then .error (vC B E (tE B E q), tS B E (tE B E q), d)
  else addS B E K A C n w d O (tE B E (tE B E q)) 6 (nmZ nm (tW B E q) m) (nmZ nm (tW B E (tE B E q)) m) 1
def cmdS (p : Nat) : SR := if kW B E p = -1 then .error (1, tS B E p, d) else if kW B E p = 8 ∧ 2 ≤ d then .error (4, tS B E p, d) else if 30 ≤ w then .error (6, tS B E p, d)
  else if kW B E p = 8 then repS B E K A C n w d O (tE B E p) else if kW B E p = 2 then movS B E K A C n w d O (tE B E p) else if kW B E p = 4 ∨ kW B E p = 7 then numS B E K A C n w d O (kW B E p) (tE B E p)
  else if kW B E p = 6 then apaS B E nm m K A C n w d O (tE B E p) else addS B E K A C n w d O (tE B E p) (kW B E p) 0 0 1
def cloS (p : Nat) : SR := addS B E K A C n w (d - 1) O (tE B E p) 9 ((O (d - 1) : Nat) : Int) 0 0
def oneS (p : Nat) : SR := if tK B E p = 5 then (if d = 0 then .error (1, tS B E p, 0) else cloS B E K A C n w d O p) else cmdS B E nm m K A C n w d O p
end SP
def scr (B : Nat → Int) (E : Nat) (nm : Nat → Int64) (m : Nat) : Nat → Sc → SR
  | 0, _ => .error (1, 0, 0)
  | f + 1, (K, A, C, n, w, d, p, O) => if tK B E p = 0 then (if d = 0 then .ok (K, A, C, n, w, d, p, O) else .error (1, tS B E p, d))
    else match oneS B E nm m K A C n w d O p with
      | .error e => .error e
      | .ok t => scr B E nm m f t
/-- what holds while a script is read -/
def PSc (E : Nat) (n w d p : Nat) : Prop := n + d ≤ 2 * w ∧ w ≤ 30 ∧ d ≤ 2 ∧ p ≤ E
section SB
variable {B : Nat → Int} {E : Nat} {nm : Nat → Int64} {m : Nat} {K A C : Nat → Int} {n w d p : Nat} {O : Nat → Nat}
theorem kW_b : -1 ≤ kW B E p ∧ kW B E p ≤ 8 := by unfold kW; (repeat' split) <;> omega
/-- what goes on behind a command -/
abbrev goS (E p : Nat) (t : Sc) : Prop := PSc E t.2.2.2.1 t.2.2.2.2.1 t.2.2.2.2.2.1 t.2.2.2.2.2.2.1 ∧ p < t.2.2.2.2.2.2.1
theorem addS_PO {q : Nat} {k a c : Int} {dw : Nat} (hq : p < q) (h : q ≤ E) (h1 : n + 1 + d ≤ 2 * (w + dw)) (h2 : w + dw ≤ 30) (h3 : d ≤ 2) : PO2 (addS B E K A C n w d O q k a c dw) (fun c _ _ => 1 ≤ c ∧ c ≤ 6) (goS E p) := by
  have b := tE_b (B := B) h
  unfold addS
  by_cases c3 : tK B E q = 3
  · rw [if_pos c3]
    exact ⟨⟨h1, h2, h3, b.2.1⟩, by show p < tE B E q; omega⟩
  · rw [if_neg c3]
    show (1 : Int) ≤ 1 ∧ (1 : Int) ≤ 6
    omega
theorem litS {c : Int} {s d' : Nat} {good : Sc → Prop} (h : 1 ≤ c ∧ c ≤ 6) : PO2 (.error (c, s, d')) (fun c _ _ => 1 ≤ c ∧ c ≤ 6) good := h
theorem numC_6 {q : Nat} : 1 ≤ numC B E q ∧ numC B E q ≤ 6 := by have := numC_b (B := B) (E := E) (p := q); omega
theorem vC_6 {q : Nat} : 1 ≤ vC B E q ∧ vC B E q ≤ 6 := by unfold vC; split <;> omega
theorem oneS_PO (h : PSc E n w d p) (h0 : tK B E p ≠ 0) : PO2 (oneS B E nm m K A C n w d O p) (fun c _ _ => 1 ≤ c ∧ c ≤ 6) (goS E p) := by
  obtain ⟨h1, h2, h3, hp⟩ := h
  have b1 := tE_b (B := B) hp
  have b2 := tK_lt (B := B) hp h0
  have b3 := tS_b (B := B) hp
  have b4 := tE_b (B := B) b1.2.1
  have b5 := tE_b (B := B) b4.2.1
  unfold oneS
  by_cases c5 : tK B E p = 5
  · rw [if_pos c5]
    by_cases cd : d = 0
    · rw [if_pos cd]; exact litS (by decide)
    · rw [if_neg cd]
      unfold cloS
      exact addS_PO (by omega) b1.2.1 (by omega) (by omega) (by omega)
  rw [if_neg c5]
  unfold cmdS
  by_cases c1 : kW B E p = -1
  · rw [if_pos c1]; exact litS (by decide)
  rw [if_neg c1]
  by_cases c2 : kW B E p = 8 ∧ 2 ≤ d
  · rw [if_pos c2]; exact litS (by decide)
  rw [if_neg c2]
  by_cases c3 : 30 ≤ w
  · rw [if_pos c3]; exact litS (by decide)
  rw [if_neg c3]
  by_cases c8 : kW B E p = 8
  · rw [if_pos c8]
    unfold repS
    by_cases x1 : ¬ nOK B E 1 20 (tE B E p)
    · rw [if_pos x1]; exact litS numC_6
    rw [if_neg x1]
    by_cases x2 : tK B E (tE B E (tE B E p)) ≠ 4
    · rw [if_pos x2]; exact litS (by decide)
    rw [if_neg x2]
    exact ⟨⟨by show n + 1 + (d + 1) ≤ 2 * (w + 1); omega, by show w + 1 ≤ 30; omega, by show d + 1 ≤ 2; omega, b5.2.1⟩, by show p < tE B E (tE B E (tE B E p)); omega⟩
  rw [if_neg c8]
  by_cases c9 : kW B E p = 2
  · rw [if_pos c9]
    unfold movS
    by_cases x1 : ¬ nOK B E 0 999 (tE B E p)
    · rw [if_pos x1]; exact litS numC_6
    rw [if_neg x1]
    by_cases x2 : ¬ nOK B E 0 999 (tE B E (tE B E p))
    · rw [if_pos x2]; exact litS numC_6
    rw [if_neg x2]
    exact addS_PO (by omega) b5.2.1 (by omega) (by omega) (by omega)
  rw [if_neg c9]
  by_cases c10 : kW B E p = 4 ∨ kW B E p = 7
  · rw [if_pos c10]
    unfold numS
    by_cases x1 : ¬ nOK B E 0 999 (tE B E p)
    · rw [if_pos x1]; exact litS numC_6
    rw [if_neg x1]
    exact addS_PO (by omega) b4.2.1 (by omega) (by omega) (by omega)
  rw [if_neg c10]
  by_cases c11 : kW B E p = 6
  · rw [if_pos c11]
    unfold apaS
    by_cases x1 : ¬ vOK B E nm m (tE B E p)
    · rw [if_pos x1]; exact litS vC_6
    rw [if_neg x1]
    by_cases x2 : ¬ vOK B E nm m (tE B E (tE B E p))
    · rw [if_pos x2]; exact litS vC_6
    rw [if_neg x2]
    exact addS_PO (by omega) b5.2.1 (by omega) (by omega) (by omega)
  rw [if_neg c11]
  exact addS_PO (by omega) b1.2.1 (by omega) (by omega) (by omega)
theorem scr_0 {f : Nat} (h : tK B E p = 0) : scr B E nm m (f + 1) (K, A, C, n, w, d, p, O) = if d = 0 then .ok (K, A, C, n, w, d, p, O) else .error (1, tS B E p, d) := by
  show (if tK B E p = 0 then _ else _) = _
  rw [if_pos h]
theorem scr_e {f : Nat} {e : Int × Nat × Nat} (h : tK B E p ≠ 0) (h2 : oneS B E nm m K A C n w d O p = .error e) : scr B E nm m (f + 1) (K, A, C, n, w, d, p, O) = .error e := by
  unfold scr
  rw [if_neg h, h2]
theorem scr_s {f : Nat} {t : Sc} (h : tK B E p ≠ 0) (h2 : oneS B E nm m K A C n w d O p = .ok t) : scr B E nm m (f + 1) (K, A, C, n, w, d, p, O) = scr B E nm m f t := by
  show (if tK B E p = 0 then _ else _) = _
  rw [if_neg h, h2]
end SB
