/-! ===== reading a script: the reference ===== -/
abbrev one1 (k : Int) : Prop := k = 2 ∨ k = 4 ∨ k = 6 ∨ k = 7 ∨ k = 8
abbrev two2 (k : Int) : Prop := k = 2 ∨ k = 6
/-- the reference's script -/
def SX (K A C : Nat → Int) (n w : Nat) (I : Ii) : Prop := I 0 41 = (n : Int) ∧ I 0 42 = (w : Int) ∧ ∀ i, i < n → I 16 i = K i ∧ (one1 (K i) → I 17 i = A i) ∧ (two2 (K i) → I 18 i = C i)
/-- a command that is being read -/
def SP (K A C : Nat → Int) (n w : Nat) (k a c : Int) (I : Ii) : Prop := SX K A C n w I ∧ I 16 n = k ∧ (one1 k → I 17 n = a) ∧ (two2 k → I 18 n = c)
def BA (c : Int) (s d : Nat) (I : Ii) : Prop := RF c s d I ∧ I 0 43 = (d : Int) ∧ MS (I 2)
section RSC
variable {I : Ii} {J : Jj} {B : Nat → Int} {E : Nat} {σ : Nat → Int} {nm : Nat → Int64} {K A C : Nat → Int} {n w d p : Nat} {O : Nat → Nat} {k l a c : Int} {s : Nat} {Q : Ii → Jj → Prop}
theorem SX.cong {I' : Ii} (h : SX K A C n w I) (e41 : I' 0 41 = I 0 41) (e42 : I' 0 42 = I 0 42) (e6 : I' 16 = I 16) (e7 : I' 17 = I 17) (e8 : I' 18 = I 18) : SX K A C n w I' := by
  unfold SX
  rw [e41, e42, e6, e7, e8]
  exact h
theorem SX.done (h : SP K A C n w k a c I) {I' : Ii} (e : I' 0 41 = I 0 41 + 1) (e42 : I' 0 42 = I 0 42) (e6 : I' 16 = I 16) (e7 : I' 17 = I 17) (e8 : I' 18 = I 18) : SX (updr K n k) (updr A n a) (updr C n c) (n + 1) w I' := by
  obtain ⟨⟨h1, h2, h3⟩, h4, h5, h6⟩ := h
  refine ⟨by rw [e, h1]; omega, e42.trans h2, fun i hi => ?_⟩
  rw [e6, e7, e8]
  by_cases ci : i = n
  · rw [ci, updr_self, updr_self, updr_self]; exact ⟨h4, h5, h6⟩
  · rw [updr_ne ci, updr_ne ci, updr_ne ci]; exact h3 i (by omega)
theorem BA.up {I' : Ii} {q i : Nat} {v : Int} (h : BA c s d I) (e : I' = up2 I q i v) (hq : q ≠ 0) (hq2 : q ≠ 2) : BA c s d I' := by
  obtain ⟨⟨h1, h2, h3, h4⟩, h5, h6⟩ := h
  refine ⟨⟨h1, ?_, ?_, ?_⟩, ?_, ?_⟩
  · rw [e, up2_key (fun z => hq z.symm)]; exact h2
  · rw [e, up2_key (fun z => hq z.symm)]; exact h3
  · rw [e, up2_key (fun z => hq z.symm)]; exact h4
  · rw [e, up2_key (fun z => hq z.symm)]; exact h5
  · rw [e, up2_key (fun z => hq2 z.symm)]; exact h6
theorem x195 (h : BA c s d I) (hq : ∀ I', BA c s d I' → Q I' J) : B_X12_command_195 Q l I J := bad_of h.1 ⟨fun z => absurd rfl z, fun _ => hq I h⟩
theorem x183 (hl : -1 ≤ l ∧ l ≤ 8) (h : BA c s d I) (hq : ∀ I', BA c s d I' → Q I' J) : B_X12_command_183 Q l I J := ⟨rgK (by omega), fun _ => x195 h hq, fun _ => mustB_of h.1 (x195 h hq)⟩
theorem x164 {z : Int} (hz : z = (n : Int)) (hn : n < 60) (hl : -1 ≤ l ∧ l ≤ 8) (h : BA c s d I) (hq : ∀ I', BA c s d I' → Q I' J) : B_X12_command_164 Q l z I J :=
  ⟨rgK (by omega), fun _ => x183 hl h hq, fun _ => numberB_of h.1 (fun v => ⟨by omega, fun I33 e => x183 hl (h.up e (by decide) (by decide)) hq⟩)⟩
theorem x148 {z : Int} (hz : z = (n : Int)) (hn : n < 60) (hl : -1 ≤ l ∧ l ≤ 8) (h : BA c s d I) (hq : ∀ I', BA c s d I' → Q I' J) : B_X12_command_148 Q l z I J :=
  ⟨rgK (by omega), fun _ => x164 hz hn hl h hq, fun _ => toldB_of h.1 h.2.2 (fun v _ _ => ⟨by omega, fun I29 e => x164 hz hn hl (h.up e (by decide) (by decide)) hq⟩)⟩
theorem x132 {z : Int} (hz : z = (n : Int)) (hn : n < 60) (hl : -1 ≤ l ∧ l ≤ 8) (h : BA c s d I) (hq : ∀ I', BA c s d I' → Q I' J) : B_X12_command_132 Q l z I J :=
  ⟨rgK (by omega), fun _ => x148 hz hn hl h hq, fun _ => toldB_of h.1 h.2.2 (fun v _ _ => ⟨by omega, fun I29 e => x148 hz hn hl (h.up e (by decide) (by decide)) hq⟩)⟩
theorem x113 {z : Int} (hz : z = (n : Int)) (hn : n < 60) (hl : -1 ≤ l ∧ l ≤ 8) (h : BA c s d I) (hq : ∀ I', BA c s d I' → Q I' J) : B_X12_command_113 Q l z I J :=
  ⟨rgK (by omega), fun _ => x132 hz hn hl h hq, fun _ => numberB_of h.1 (fun v => ⟨by omega, fun I33 e => x132 hz hn hl (h.up e (by decide) (by decide)) hq⟩)⟩
theorem x49 (h : BA c s d I) (hq : ∀ I', BA c s d I' → Q I' J) : B_X12_command_49 Q l I J := bad_of h.1 ⟨fun z => absurd rfl z, fun _ => hq I h⟩
theorem x34 (h42 : 0 ≤ I 0 42 ∧ I 0 42 ≤ 30) (h : BA c s d I) (hq : ∀ I', BA c s d I' → Q I' J) : B_X12_command_34 Q l I J := ⟨rgK (by omega), fun _ => x49 h hq, fun _ => wrongB_of h.1 (x49 h hq)⟩
/-- the end of a command that is not repeat -/
theorem g195 (hk : 0 ≤ k ∧ k ≤ 7) (hL : LX B E d p I J) (hS : SP K A C n w k a c I) (h2 : I 2 = σ) (h7 : J 7 = nm) (hd : d ≤ 2) (hq : ∀ I', LX B E d p I' J → SX (updr K n k) (updr A n a) (updr C n c) (n + 1) w I' → I' 2 = σ → J 7 = nm → Q I' J) : B_X12_command_195 Q k I J := by
  refine good_of hL.1 ⟨fun _ I37 e37 => ⟨rgK (by omega), fun _ => ?_, fun z => by omega⟩, fun z => absurd z (by decide)⟩
  refine fr_X12_truth (s_truth (Or.inl rfl)) (fun v hv => ?_)
  subst hv
  intro I40 e40
  have h43 : I 0 43 = (d : Int) := hL.2.2.2.2.2.2.1
  have f43 : I37 0 43 = (d : Int) := by rw [e37, up2_ne (by omega)]; exact h43
  have ek : ∀ q, q ≠ 0 → I40 q = I q := fun q z => by rw [e40, up2_key z, e37, up2_key z]
  refine hq I40 (hL.cong (fun i z1 z2 => by rw [e40, up2_ne (by omega), e37, up2_ne (by omega)]) (by rw [e40, up2_self, f43, h43]; omega) (ek 1 (by omega)) rfl) (SX.done hS (by rw [e40, up2_ne (by omega), e37, up2_self]) (by rw [e40, up2_ne (by omega), e37, up2_ne (by omega)]) (ek 16 (by omega)) (ek 17 (by omega)) (ek 18 (by omega))) (by rw [ek 2 (by omega)]; exact h2) h7
theorem g164 {z : Int} (hk : 0 ≤ k ∧ k ≤ 7) (h : B_X12_command_195 Q k I J) : B_X12_command_164 Q k z I J := ⟨rgK (by omega), fun _ => ⟨rgK (by omega), fun _ => h, fun y => by omega⟩, fun y => by omega⟩
theorem g132 {z : Int} (hk : 0 ≤ k ∧ k ≤ 7) (h6 : k ≠ 6) (h : B_X12_command_195 Q k I J) : B_X12_command_132 Q k z I J := ⟨rgK (by omega), fun _ => ⟨rgK (by omega), fun _ => g164 hk h, fun y => absurd y h6⟩, fun y => absurd y h6⟩
theorem SP.w17 {I' : Ii} {a' : Int} (h : SP K A C n w k a c I) (e : I' = up2 I 17 n a') : SP K A C n w k a' c I' := by
  obtain ⟨⟨h1, h2, h3⟩, h4, h5, h6⟩ := h
  refine ⟨⟨by rw [e, up2_key (by omega)]; exact h1, by rw [e, up2_key (by omega)]; exact h2, fun i hi => ?_⟩, by rw [e, up2_key (by omega)]; exact h4, fun _ => by rw [e, up2_self], fun z => by rw [e, up2_key (by omega)]; exact h6 z⟩
  rw [e, up2_key (by omega), up2_ne (by omega), up2_key (by omega)]
  exact h3 i hi
theorem SP.w18 {I' : Ii} {c' : Int} (h : SP K A C n w k a c I) (e : I' = up2 I 18 n c') : SP K A C n w k a c' I' := by
  obtain ⟨⟨h1, h2, h3⟩, h4, h5, h6⟩ := h
  refine ⟨⟨by rw [e, up2_key (by omega)]; exact h1, by rw [e, up2_key (by omega)]; exact h2, fun i hi => ?_⟩, by rw [e, up2_key (by omega)]; exact h4, fun z => by rw [e, up2_key (by omega)]; exact h5 z, fun _ => by rw [e, up2_self]⟩
  rw [e, up2_key (by omega), up2_key (by omega), up2_ne (by omega)]
  exact h3 i hi
theorem SP.fr {I' : Ii} (h : SP K A C n w k a c I) (e41 : I' 0 41 = I 0 41) (e42 : I' 0 42 = I 0 42) (e6 : I' 16 = I 16) (e7 : I' 17 = I 17) (e8 : I' 18 = I 18) : SP K A C n w k a c I' :=
  ⟨h.1.cong e41 e42 e6 e7 e8, by rw [e6]; exact h.2.1, by rw [e7]; exact h.2.2.1, by rw [e8]; exact h.2.2.2⟩
theorem LX.up (hL : LX B E d p I J) {I' : Ii} {q i : Nat} {v : Int} (e : I' = up2 I q i v) (h0 : 1 < q) : LX B E d p I' J :=
  hL.cong (fun j _ _ => by rw [e, up2_key (by omega)]) (by rw [e, up2_key (by omega)]) (by rw [e, up2_key (by omega)]) rfl
theorem s_kind (hL : LX B E d p I J) : wp_X12_commandHere I J (fun r _ _ => r = kW B E p) := by
  unfold kW
  refine isWord_ofX hL (fun c => ⟨fun z => absurd z (by decide), fun _ => by rw [if_pos c]⟩) (fun c => ⟨fun _ => ?_, fun z => absurd rfl z⟩)
  rw [if_neg c]
  refine isWord_ofX hL (fun c => ⟨fun z => absurd z (by decide), fun _ => by rw [if_pos c]⟩) (fun c => ⟨fun _ => ?_, fun z => absurd rfl z⟩)
  rw [if_neg c]
  refine isWord_ofX hL (fun c => ⟨fun z => absurd z (by decide), fun _ => by rw [if_pos c]⟩) (fun c => ⟨fun _ => ?_, fun z => absurd rfl z⟩)
  rw [if_neg c]
  refine isWord_ofX hL (fun c => ⟨fun z => absurd z (by decide), fun _ => by rw [if_pos c]⟩) (fun c => ⟨fun _ => ?_, fun z => absurd rfl z⟩)
  rw [if_neg c]
  refine isWord_ofX hL (fun c => ⟨fun z => absurd z (by decide), fun _ => by rw [if_pos c]⟩) (fun c => ⟨fun _ => ?_, fun z => absurd rfl z⟩)
  rw [if_neg c]
  refine isWord_ofX hL (fun c => ⟨fun z => absurd z (by decide), fun _ => by rw [if_pos c]⟩) (fun c => ⟨fun _ => ?_, fun z => absurd rfl z⟩)
  rw [if_neg c]
  refine isWord_ofX hL (fun c => ⟨fun z => absurd z (by decide), fun _ => by rw [if_pos c]⟩) (fun c => ⟨fun _ => ?_, fun z => absurd rfl z⟩)
  rw [if_neg c]
  refine isWord_ofX hL (fun c => ⟨fun z => absurd z (by decide), fun _ => by rw [if_pos c]⟩) (fun c => ⟨fun _ => ?_, fun z => absurd rfl z⟩)
  rw [if_neg c]
  refine isWord_ofX hL (fun c => ⟨fun z => absurd z (by decide), fun _ => by rw [if_pos c]⟩) (fun c => ⟨fun _ => by rw [if_neg c], fun z => absurd rfl z⟩)
end RSC
