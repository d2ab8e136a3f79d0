/-! ===== reading a script: the class ===== -/
/-- the class's script -/
def CC (K A C : Nat → Int) (n w d : Nat) (O : Nat → Nat) (I : Ii) : Prop := I 106 4 = (n : Int) ∧ I 106 5 = (w : Int) ∧ (∀ i, i < n → I 107 i = K i ∧ I 108 i = A i ∧ I 109 i = C i) ∧ ∀ i, i < d → I 105 i = ((O i : Nat) : Int)
def CQS (B : Nat → Int) (E : Nat) (x : SR) (r : Int) (I : Ii) : Prop := PO2 x (fun c s d => r = 0 ∧ CE c s d I) (fun t => r = 1 ∧ CT B E t.2.2.2.2.2.1 t.2.2.2.2.2.2.1 I ∧ CC t.1 t.2.1 t.2.2.1 t.2.2.2.1 t.2.2.2.2.1 t.2.2.2.2.2.1 t.2.2.2.2.2.2.2 I)
section CSC
variable {I : Ii} {J : Jj} {B : Nat → Int} {E : Nat} {σ : Nat → Int} {nm : Nat → Int64} {K A C : Nat → Int} {n w d p : Nat} {O : Nat → Nat}
theorem CC.cong {I' : Ii} (h : CC K A C n w d O I) (e5 : I' 105 = I 105) (e6 : I' 106 = I 106) (e7 : I' 107 = I 107) (e8 : I' 108 = I 108) (e9 : I' 109 = I 109) : CC K A C n w d O I' := by
  unfold CC
  rw [e5, e6, e7, e8, e9]
  exact h
theorem append_of {k a c : Int} (h : CC K A C n w d O I) (hn : n < 60) {Q : Ii → Jj → Prop} (hq : ∀ I', CC (updr K n k) (updr A n a) (updr C n c) (n + 1) w d O I' → Same W_X6_append I J I' J → Q I' J) : wp_X6_append k a c I J Q := by
  obtain ⟨h4, h5, hc, ho⟩ := h
  refine fr_X6_append (P := fun I' J' => CC (updr K n k) (updr A n a) (updr C n c) (n + 1) w d O I' ∧ J' = J) ?_ (fun I' J' q s => by obtain ⟨q, rfl⟩ := q; exact hq I' q s)
  refine put_of (n := 60) (i := n) rfl h4 hn (fun I1 e1 => ?_)
  have f1 : I1 106 4 = (n : Int) := by rw [e1, up2_ne (by omega)]; exact h4
  refine put_of (n := 60) (i := n) rfl f1 hn (fun I2 e2 => ?_)
  have f2 : I2 106 4 = (n : Int) := by rw [e2, up2_ne (by omega)]; exact f1
  refine put_of (n := 60) (i := n) rfl f2 hn (fun I3 e3 => ?_)
  intro I4 e4
  refine ⟨⟨?_, ?_, fun i hi => ⟨?_, ?_, ?_⟩, fun i hi => ?_⟩, rfl⟩
  · rw [e4, up2_self, e3, up2_ne (by omega), f2]; omega
  · rw [e4, up2_ne (by omega), e3, up2_ne (by omega), e2, up2_ne (by omega), e1, up2_ne (by omega)]; exact h5
  · rw [e4, up2_ne (by omega), e3, up2_ne (by omega), e2, up2_ne (by omega), e1]
    by_cases c : i = n
    · rw [c, up2_self, updr_self]
    · rw [up2_ne (by omega), updr_ne c]; exact (hc i (by omega)).1
  · rw [e4, up2_ne (by omega), e3, up2_ne (by omega), e2]
    by_cases c : i = n
    · rw [c, up2_self, updr_self]
    · rw [up2_ne (by omega), e1, up2_ne (by omega), updr_ne c]; exact (hc i (by omega)).2.1
  · rw [e4, up2_ne (by omega), e3]
    by_cases c : i = n
    · rw [c, up2_self, updr_self]
    · rw [up2_ne (by omega), e2, up2_ne (by omega), e1, up2_ne (by omega), updr_ne c]; exact (hc i (by omega)).2.2
  · rw [e4, up2_ne (by omega), e3, up2_ne (by omega), e2, up2_ne (by omega), e1, up2_ne (by omega)]; exact ho i hi
theorem addC_of {k a c : Int} (h : CC K A C n w d O I) (hn : n < 60) {Q : Ii → Jj → Prop} (hq : ∀ I', CC (updr K n k) (updr A n a) (updr C n c) (n + 1) (w + 1) d O I' → I' 101 = I 101 → I' 102 = I 102 → Q I' J) : wp_X6_addCommand k a c I J Q := by
  intro I1 e1
  have h1 : CC K A C n (w + 1) d O I1 := ⟨by rw [e1, up2_ne (by omega)]; exact h.1, by rw [e1, up2_self, h.2.1]; omega, fun i hi => by rw [e1, up2_ne (by omega), up2_ne (by omega), up2_ne (by omega)]; exact h.2.2.1 i hi, fun i hi => by rw [e1, up2_ne (by omega)]; exact h.2.2.2 i hi⟩
  refine append_of h1 hn (fun I' q s => hq I' q ?_ ?_)
  · have : I' 101 = I1 101 := s.k
    rw [this, e1, up2_key (by omega)]
  · have : I' 102 = I1 102 := s.k
    rw [this, e1, up2_key (by omega)]
theorem CQS_b {x : SR} {r : Int} (h : CQS B E x r I) : r = 0 ∨ r = 1 := by
  cases x with
  | error e => exact Or.inl h.1
  | ok u => exact Or.inr h.1
/-- a command is told, then a semicolon is taken -/
theorem addS_of {q dw : Nat} {k a c : Int} (hT : CT B E d q I) (h : CC (updr K n k) (updr A n a) (updr C n c) (n + 1) (w + dw) d O I) {Q : Int → Ii → Jj → Prop} (hq : ∀ r I' J', CQS B E (addS B E K A C n w d O q k a c dw) r I' → Q r I' J') : wp_X10_takes 3 I J Q := by
  unfold addS at hq
  refine takes_of hT (by decide) (fun k1 I2 J2 t2 _ _ s2 => hq 1 I2 J2 ?_) (fun k1 I2 J2 t2 _ => hq 0 I2 J2 ?_)
  · rw [if_pos k1]
    exact ⟨rfl, t2, h.cong s2.k s2.k s2.k s2.k s2.k⟩
  · rw [if_neg k1]
    exact ⟨rfl, t2⟩
theorem c_kind {q : Nat} (h5 : I 101 5 = tK B E q) (h6 : tK B E q = 1 → J 101 6 = tW B E q) : wp_X7_kindOfWord I J (fun r _ _ => r = kW B E q) := by
  unfold kW
  refine isWord_of h5 h6 (fun c => ⟨fun z => absurd z (by decide), fun _ => by rw [if_pos c]⟩) (fun c => ⟨fun _ => ?_, fun z => absurd rfl z⟩)
  rw [if_neg c]
  refine isWord_of h5 h6 (fun c => ⟨fun z => absurd z (by decide), fun _ => by rw [if_pos c]⟩) (fun c => ⟨fun _ => ?_, fun z => absurd rfl z⟩)
  rw [if_neg c]
  refine isWord_of h5 h6 (fun c => ⟨fun z => absurd z (by decide), fun _ => by rw [if_pos c]⟩) (fun c => ⟨fun _ => ?_, fun z => absurd rfl z⟩)
  rw [if_neg c]
  refine isWord_of h5 h6 (fun c => ⟨fun z => absurd z (by decide), fun _ => by rw [if_pos c]⟩) (fun c => ⟨fun _ => ?_, fun z => absurd rfl z⟩)
  rw [if_neg c]
  refine isWord_of h5 h6 (fun c => ⟨fun z => absurd z (by decide), fun _ => by rw [if_pos c]⟩) (fun c => ⟨fun _ => ?_, fun z => absurd rfl z⟩)
  rw [if_neg c]
  refine isWord_of h5 h6 (fun c => ⟨fun z => absurd z (by decide), fun _ => by rw [if_pos c]⟩) (fun c => ⟨fun _ => ?_, fun z => absurd rfl z⟩)
  rw [if_neg c]
  refine isWord_of h5 h6 (fun c => ⟨fun z => absurd z (by decide), fun _ => by rw [if_pos c]⟩) (fun c => ⟨fun _ => ?_, fun z => absurd rfl z⟩)
  rw [if_neg c]
  refine isWord_of h5 h6 (fun c => ⟨fun z => absurd z (by decide), fun _ => by rw [if_pos c]⟩) (fun c => ⟨fun _ => ?_, fun z => absurd rfl z⟩)
  rw [if_neg c]
  refine isWord_of h5 h6 (fun c => ⟨fun z => absurd z (by decide), fun _ => by rw [if_pos c]⟩) (fun c => ⟨fun _ => by rw [if_neg c], fun z => absurd rfl z⟩)
theorem c_readClose (hT : CT B E d (tE B E p) I) (h3 : I 101 3 = (tS B E p : Int)) (hC : CC K A C n w d O I) (hn : n < 60) (hd : d ≤ 2) : wp_X7_readClose I J (fun r I' _ => CQS B E (if d = 0 then .error (1, tS B E p, 0) else cloS B E K A C n w d O p) r I') := by
  have h8 := hT.2.2.2.1
  refine ⟨rgK (by omega), fun c => ?_, fun c => ?_⟩
  · rw [if_neg (by omega)]
    intro I2 e2
    have q8 : I2 101 8 = ((d - 1 : Nat) : Int) := by rw [e2, up2_self, h8]; omega
    refine at_of (n := 2) (i := d - 1) rfl q8 (by omega) ?_
    have ek : ∀ k, k ≠ 101 → I2 k = I k := fun k a => by rw [e2, up2_key a]
    have eo : I2 105 (d - 1) = ((O (d - 1) : Nat) : Int) := by rw [ek 105 (by omega)]; exact hC.2.2.2 _ (by omega)
    rw [eo]
    have hC2 : CC K A C n w (d - 1) O I2 := by
      have := hC.cong (I' := I2) (ek 105 (by omega)) (ek 106 (by omega)) (ek 107 (by omega)) (ek 108 (by omega)) (ek 109 (by omega))
      exact ⟨this.1, this.2.1, this.2.2.1, fun i hi => this.2.2.2 i (by omega)⟩
    have hT2 : CT B E (d - 1) (tE B E p) I2 := ⟨by rw [e2, up2_ne (by omega)]; exact hT.1, by rw [e2, up2_ne (by omega)]; exact hT.2.1, hT.2.2.1, q8, fun i hi => by rw [ek 102 (by omega)]; exact hT.2.2.2.2.1 i hi, hT.2.2.2.2.2.1, hT.2.2.2.2.2.2.1, by rw [e2, up2_ne (by omega)]; exact hT.2.2.2.2.2.2.2.1, by rw [e2, up2_ne (by omega)]; exact hT.2.2.2.2.2.2.2.2.1, by rw [e2, up2_ne (by omega)]; exact hT.2.2.2.2.2.2.2.2.2⟩
    refine append_of hC2 hn (fun I4 q4 s4 => ?_)
    unfold cloS
    exact addS_of (dw := 0) (hT2.same s4.k s4.k) q4 (fun r I' J' h => ⟨CQS_b h, h⟩)
  · have d0 : d = 0 := by omega
    subst d0
    rw [if_pos rfl]
    exact fail_of h3 h8 (fun I' hE _ => ⟨Or.inl rfl, rfl, hE⟩)
theorem vtx_of {q : Nat} (hM : MS σ) (hd : ND nm (σ 0).toNat) (hR : RG 200 I J σ nm) (hT : CT B E d q I) {Q : Int → Ii → Jj → Prop} (h1 : vOK B E nm (σ 0).toNat q → ∀ I' J', CT B E d (tE B E q) I' → J' 101 6 = tW B E q → RG 200 I' J' σ nm → Same (W_X7_takesVertex 200) I J I' J' → Q 1 I' J') (h0 : ¬ vOK B E nm (σ 0).toNat q → ∀ I' J', CE (vC B E q) (tS B E q) d I' → Q 0 I' J') : wp_X7_takesVertex 200 I J Q := by
  have gk : gK 200 := Or.inl rfl
  refine fr_X7_takesVertex (P := fun r I' J' => (vOK B E nm (σ 0).toNat q ∧ r = 1 ∧ CT B E d (tE B E q) I' ∧ J' 101 6 = tW B E q) ∨ (¬ vOK B E nm (σ 0).toNat q ∧ r = 0 ∧ CE (vC B E q) (tS B E q) d I')) ?_ (fun v I' J' z s => ?_)
  · have kb := tK_b (B := B) (E := E) (p := q)
    refine ⟨gk, fr_X10_advance (c_advanceT hT) (fun I1 J1 z s1 => ?_)⟩
    obtain ⟨z1, z3, z5, z6, -⟩ := z
    rw [z5]
    have b0 := ms_0 hM
    refine ⟨rgK (by omega), fun c => ?_, fun c => ?_⟩
    · rw [z6 c]
      refine fr_X2_vertexNamed (c_vertexNamed gk hM (hR.fr s1) hd) (fun v hv => ?_)
      have nb := nmZ_b nm (tW B E q) (σ 0).toNat
      subst hv
      refine ⟨rgK (by omega), fun c2 => Or.inl ⟨⟨c, c2⟩, rfl, z1, z6 c⟩, fun c2 => ?_⟩
      have e3 : vC B E q = 3 := by unfold vC; rw [if_pos c]
      exact fail_of z3 z1.2.2.2.1 (fun I' hE _ => ⟨fun _ => Or.inr ⟨fun y => y.2 c2, rfl, by rw [e3]; exact hE⟩, fun z => absurd rfl z⟩)
    · have e1 : vC B E q = 1 := by unfold vC; rw [if_neg c]
      exact fail_of z3 z1.2.2.2.1 (fun I' hE _ => ⟨Or.inl rfl, Or.inr ⟨fun y => c y.1, rfl, by rw [e1]; exact hE⟩⟩)
  · rcases z with ⟨a, rfl, b, b2⟩ | ⟨a, rfl, b⟩
    · exact h1 a I' J' b b2 (hR.fr s) s
    · exact h0 a I' J' b
end CSC
