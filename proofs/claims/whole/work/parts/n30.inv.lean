/-! ===== the relation of the class and the reference ===== -/
/-- these rows, these places and these rows of longs are the same -/
def ag (ks : List Nat) (ps : List (Nat × Nat)) (js : List Nat) (I : Ii) (J : Jj) (I' : Ii) (J' : Jj) : Prop := (∀ q ∈ ks, I' q = I q) ∧ (∀ p ∈ ps, I' p.1 p.2 = I p.1 p.2) ∧ ∀ q ∈ js, J' q = J q
def agq (ks : List Nat) (ps : List (Nat × Nat)) (js : List Nat) (l : List (Nat × Nat)) : Bool := (ks.all fun q => !wlk l q) && ((ps.all fun p => !wl l p.1 p.2) && (js.all fun q => !wlk l q))
theorem ag_of {ks js : List Nat} {ps l : List (Nat × Nat)} {I I' : Ii} {J J' : Jj} (hs : Same (WL l) I J I' J') (h : agq ks ps js l = true) : ag ks ps js I J I' J' := by
  unfold agq at h
  rw [Bool.and_eq_true, Bool.and_eq_true] at h
  refine ⟨fun q hq => hs.rI (WL_n (all_not h.1 hq)), fun p hp => ?_, fun q hq => hs.rJ (WL_n (all_not h.2.2 hq))⟩
  have := List.all_eq_true.mp h.2.1 p hp
  have hn : wl l p.1 p.2 = false := by simpa using this
  exact (hs p.1 p.2 (fun z => by unfold WL at z; rw [hn] at z; cases z)).1
theorem ag.trans {ks js : List Nat} {ps : List (Nat × Nat)} {I I1 I2 : Ii} {J J1 J2 : Jj} (h : ag ks ps js I J I1 J1) (h2 : ag ks ps js I1 J1 I2 J2) : ag ks ps js I J I2 J2 :=
  ⟨fun q hq => (h2.1 q hq).trans (h.1 q hq), fun p hp => (h2.2.1 p hp).trans (h.2.1 p hp), fun q hq => (h2.2.2 q hq).trans (h.2.2 q hq)⟩
theorem ag_J {ks js : List Nat} {ps : List (Nat × Nat)} {I : Ii} {J J' : Jj} (hJ : ∀ k, k ≠ 50 → J' k = J k) (h : (js.all fun q => q != 50) = true) : ag ks ps js I J I J' :=
  ⟨fun _ _ => rfl, fun _ _ => rfl, fun q hq => hJ q (by have := List.all_eq_true.mp h q hq; simpa using this)⟩
abbrev kA : List Nat := [2, 200, 202, 203, 204, 205, 300, 301, 302, 303, 304]
abbrev kH : List Nat := [2, 4, 111, 330, 331, 332, 333, 334, 340, 341, 342, 343, 344, 350, 351, 352, 353, 354, 360, 361, 362, 363, 364, 370, 371, 372, 373, 374, 380, 381, 382, 383, 384]
abbrev kSv : List Nat := [3, 220, 222, 223, 224, 225, 320, 321, 322, 323, 324]
abbrev pE : List (Nat × Nat) := [(0, 11), (0, 12), (0, 13), (101, 9), (101, 10), (101, 11)]
abbrev pR : List (Nat × Nat) := [(0, 46), (0, 47), (100, 17)]
/-- the row now -/
def IA (n : Nat) (I : Ii) (J : Jj) : Prop := VS (I 2) ∧ Tl 350 (I 2) ∧ TlJ 14 (J 7) ∧ ND (J 7) (I 2 0).toNat ∧ GNs (J 7) (I 2 0).toNat ∧ I 2 6 ≤ 5000 * (n : Int) ∧ RG 200 I J (I 2) (J 7) ∧ RS 300 I (I 2)
/-- what can be undone -/
def IHq (n u : Nat) (σ : Nat → Int) (pf : Nat → Nat → Int) : Prop := ∀ i, i < u → VS (pf i) ∧ GE σ (pf i) ∧ pf i 6 ≤ 5000 * (n : Int)
def IH (n : Nat) (I : Ii) : Prop := ∃ u nw : Nat, I 0 23 = (u : Int) ∧ HR I u nw (seg (I 4)) ∧ IHq n u (I 2) (seg (I 4))
/-- what is saved -/
def IS (n : Nat) (I : Ii) (J : Jj) : Prop := (I 0 24 = 0 ∧ I 100 10 = 0) ∨ (I 0 24 = 1 ∧ I 100 10 = 1 ∧ VS (I 3) ∧ ND (J 8) (I 3 0).toNat ∧ GNs (J 8) (I 3 0).toNat ∧ I 3 6 ≤ 5000 * (n : Int) ∧ RG 220 I J (I 3) (J 8) ∧ RS 320 I (I 3))
/-- the bytes -/
def IB (I : Ii) : Prop := ∃ m : Nat, m ≤ 800 ∧ I 0 2 = (m : Int) ∧ I 101 1 = (m : Int) ∧ (∀ i, i < m → I 102 i = I 1 i) ∧ ∀ i, i < m → 0 ≤ I 1 i ∧ I 1 i ≤ 255
/-- the error -/
def IE (I : Ii) : Prop := I 0 11 = I 101 9 ∧ I 0 12 = I 101 10 ∧ I 0 13 = I 101 11
/-- the report -/
def IR (I : Ii) : Prop := ∃ R : List Int, R.length ≤ 152 ∧ hlC I R ∧ (I 0 47 = 1 ∧ hlS I R ∨ I 0 47 = 0 ∧ R = [])
/-- the rows' ends -/
def ITl (I : Ii) (J : Jj) : Prop := Tl 350 (I 3) ∧ Tl 350 (I 5) ∧ Tl 350 (I 6) ∧ TlJ 14 (J 8) ∧ TlJ 14 (J 9)
def Inv (n : Nat) (I : Ii) (J : Jj) : Prop := IA n I J ∧ IH n I ∧ IS n I J ∧ IB I ∧ IE I ∧ IR I ∧ ITl I J
section IVF
variable {n : Nat} {I I' : Ii} {J J' : Jj}
theorem IA.ag (h : IA n I J) (a : ag kA [] [7, 201] I J I' J') : IA n I' J' := by
  obtain ⟨h1, h2, h3, h4, h5, h6, h7, h8⟩ := h
  have e2 := a.1 2 (by decide)
  have e7 := a.2.2 7 (by decide)
  unfold IA
  rw [e2, e7]
  exact ⟨h1, h2, h3, h4, h5, h6, h7.cong (a.1 200 (by decide)) (a.2.2 201 (by decide)) (a.1 202 (by decide)) (a.1 203 (by decide)) (a.1 204 (by decide)) (a.1 205 (by decide)), h8.cong (a.1 300 (by decide)) (a.1 301 (by decide)) (a.1 302 (by decide)) (a.1 303 (by decide)) (a.1 304 (by decide))⟩
theorem HR_ag {u nw : Nat} {pf : Nat → Nat → Int} (h : HR I u nw pf) (a : ag [111, 330, 331, 332, 333, 334, 340, 341, 342, 343, 344, 350, 351, 352, 353, 354, 360, 361, 362, 363, 364, 370, 371, 372, 373, 374, 380, 381, 382, 383, 384] [] [] I J I' J') : HR I' u nw pf :=
  HR_same h (a.1 111 (by decide)) (fun m hm => by
    have : m = 0 ∨ m = 1 ∨ m = 2 ∨ m = 3 ∨ m = 4 ∨ m = 5 := by omega
    rcases this with rfl | rfl | rfl | rfl | rfl | rfl <;> exact ⟨a.1 _ (by decide), a.1 _ (by decide), a.1 _ (by decide), a.1 _ (by decide), a.1 _ (by decide)⟩)
theorem IH.ag (h : IH n I) (a : ag kH [(0, 23)] [] I J I' J') : IH n I' := by
  obtain ⟨u, nw, h1, h2, h3⟩ := h
  have e2 := a.1 2 (by decide)
  have e4 := a.1 4 (by decide)
  refine ⟨u, nw, (a.2.1 (0, 23) (by decide)).trans h1, ?_, by rw [e2, e4]; exact h3⟩
  rw [e4]
  exact HR_same h2 (a.1 111 (by decide)) (fun m hm => by
    have : m = 0 ∨ m = 1 ∨ m = 2 ∨ m = 3 ∨ m = 4 ∨ m = 5 := by omega
    rcases this with rfl | rfl | rfl | rfl | rfl | rfl <;> exact ⟨a.1 _ (by decide), a.1 _ (by decide), a.1 _ (by decide), a.1 _ (by decide), a.1 _ (by decide)⟩)
theorem IS.ag (h : IS n I J) (a : ag kSv [(0, 24), (100, 10)] [8, 221] I J I' J') : IS n I' J' := by
  have e3 := a.1 3 (by decide)
  have e8 := a.2.2 8 (by decide)
  have f1 : I' 0 24 = I 0 24 := a.2.1 (0, 24) (by decide)
  have f2 : I' 100 10 = I 100 10 := a.2.1 (100, 10) (by decide)
  unfold IS
  rw [e3, e8, f1, f2]
  rcases h with h | ⟨h1, h2, h3, h4, h5, h6, h7, h8⟩
  · exact Or.inl h
  · exact Or.inr ⟨h1, h2, h3, h4, h5, h6, h7.cong (a.1 220 (by decide)) (a.2.2 221 (by decide)) (a.1 222 (by decide)) (a.1 223 (by decide)) (a.1 224 (by decide)) (a.1 225 (by decide)), h8.cong (a.1 320 (by decide)) (a.1 321 (by decide)) (a.1 322 (by decide)) (a.1 323 (by decide)) (a.1 324 (by decide))⟩
theorem IB.ag (h : IB I) (a : ag [1, 102] [(0, 2), (101, 1)] [] I J I' J') : IB I' := by
  obtain ⟨m, h1, h2, h3, h4, h5⟩ := h
  have e1 := a.1 1 (by decide)
  have e2 := a.1 102 (by decide)
  exact ⟨m, h1, (a.2.1 (0, 2) (by decide)).trans h2, (a.2.1 (101, 1) (by decide)).trans h3, by rw [e1, e2]; exact h4, by rw [e1]; exact h5⟩
theorem IE.ag (h : IE I) (a : ag [] pE [] I J I' J') : IE I' := by
  obtain ⟨h1, h2, h3⟩ := h
  exact ⟨(a.2.1 (0, 11) (by decide)).trans (h1.trans (a.2.1 (101, 9) (by decide)).symm), (a.2.1 (0, 12) (by decide)).trans (h2.trans (a.2.1 (101, 10) (by decide)).symm), (a.2.1 (0, 13) (by decide)).trans (h3.trans (a.2.1 (101, 11) (by decide)).symm)⟩
theorem IR.ag (h : IR I) (a : ag [21, 132] pR [] I J I' J') : IR I' := by
  obtain ⟨R, h1, h2, h3⟩ := h
  have e1 := a.1 21 (by decide)
  have e2 := a.1 132 (by decide)
  have f1 : I' 0 46 = I 0 46 := a.2.1 (0, 46) (by decide)
  have f2 : I' 0 47 = I 0 47 := a.2.1 (0, 47) (by decide)
  have f3 : I' 100 17 = I 100 17 := a.2.1 (100, 17) (by decide)
  refine ⟨R, h1, ⟨f3.trans h2.1, by rw [e2]; exact h2.2⟩, ?_⟩
  rcases h3 with ⟨a1, a2⟩ | ⟨a1, a2⟩
  · exact Or.inl ⟨f2.trans a1, f1.trans a2.1, by rw [e1]; exact a2.2⟩
  · exact Or.inr ⟨f2.trans a1, a2⟩
theorem ITl.ag (h : ITl I J) (a : ag [3, 5, 6] [] [8, 9] I J I' J') : ITl I' J' := by
  unfold ITl
  rw [a.1 3 (by decide), a.1 5 (by decide), a.1 6 (by decide), a.2.2 8 (by decide), a.2.2 9 (by decide)]
  exact h
theorem IA.mono (h : IA n I J) : IA (n + 1) I J := by
  obtain ⟨h1, h2, h3, h4, h5, h6, h7, h8⟩ := h
  exact ⟨h1, h2, h3, h4, h5, by omega, h7, h8⟩
theorem IH.mono (h : IH n I) : IH (n + 1) I := by
  obtain ⟨u, nw, h1, h2, h3⟩ := h
  exact ⟨u, nw, h1, h2, fun i hi => ⟨(h3 i hi).1, (h3 i hi).2.1, by have := (h3 i hi).2.2; omega⟩⟩
theorem IS.mono (h : IS n I J) : IS (n + 1) I J := by
  rcases h with h | ⟨h1, h2, h3, h4, h5, h6, h7, h8⟩
  · exact Or.inl h
  · exact Or.inr ⟨h1, h2, h3, h4, h5, by omega, h7, h8⟩
theorem Inv.mono (h : Inv n I J) : Inv (n + 1) I J := ⟨h.1.mono, h.2.1.mono, h.2.2.1.mono, h.2.2.2⟩
/-- nothing of it is touched -/
def invq (l : List (Nat × Nat)) : Bool := agq kA [] [7, 201] l && (agq kH [(0, 23)] [] l && (agq kSv [(0, 24), (100, 10)] [8, 221] l && (agq [1, 102] [(0, 2), (101, 1)] [] l && (agq [] pE [] l && (agq [21, 132] pR [] l && agq [3, 5, 6] [] [8, 9] l)))))
theorem Inv.fr {l : List (Nat × Nat)} (h : Inv n I J) (hs : Same (WL l) I J I' J') (hn : invq l = true := by rfl) : Inv n I' J' := by
  unfold invq at hn
  simp only [Bool.and_eq_true] at hn
  obtain ⟨h1, h2, h3, h4, h5, h6, h7⟩ := h
  exact ⟨h1.ag (ag_of hs hn.1), h2.ag (ag_of hs hn.2.1), h3.ag (ag_of hs hn.2.2.1), h4.ag (ag_of hs hn.2.2.2.1), h5.ag (ag_of hs hn.2.2.2.2.1), h6.ag (ag_of hs hn.2.2.2.2.2.1), h7.ag (ag_of hs hn.2.2.2.2.2.2)⟩
theorem Inv.j50 (h : Inv n I J) (hJ : ∀ k, k ≠ 50 → J' k = J k) : Inv n I J' := by
  obtain ⟨h1, h2, h3, h4, h5, h6, h7⟩ := h
  exact ⟨h1.ag (ag_J hJ rfl), h2, h3.ag (ag_J hJ rfl), h4, h5, h6, h7.ag (ag_J hJ rfl)⟩
end IVF
