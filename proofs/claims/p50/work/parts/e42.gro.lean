/-! ===== the world that grows, and its text ===== -/
/-- what stood before stays: below 1000 all, sorts and lengths below 1022 -/
def XG (I0 I : Ii) : Prop := (∀ k, k < 1000 → k ≠ 999 → I k = I0 k) ∧ ∀ k, k < 1022 → k ≠ 999 → I (1000000 + k) = I0 (1000000 + k)
theorem XG.rf (I : Ii) : XG I I := ⟨fun _ _ _ => rfl, fun _ _ _ => rfl⟩
theorem XG.ltp {I0 I : Ii} (h : XG I0 I) (hl : LTP I0) : LTP I := by
  intro k k1 k2
  rw [h.1 k (by omega) (by omega), h.2 k (by omega) (by omega)]
  exact hl k k1 k2
theorem XG.ex {W : Nat → Prop} {I0 I I' : Ii} (h : XG I0 I) (hx : ExW W I I') (hN : 1022 ≤ I 999 0) (hw : ∀ k, k < 1000 → ¬ W k) : XG I0 I' :=
  ⟨fun k h1 h2 => ((hx.2 k h2 (by omega)).1 (hw k h1)).trans (h.1 k h1 h2), fun k h1 h2 => ((hx.2 k h2 (by omega)).2).trans (h.2 k h1 h2)⟩
/-- the world's numbers while it grows -/
def GW (n : Int) (σ : Nat → Int) (I : Ii) : Prop := I 1000 0 = n ∧ (I 1000 1 = σ 2 ∧ I 1000 2 = σ 3 ∧ I 1000 3 = σ 4 ∧ I 1000 4 = σ 1) ∧ (∀ v, v < (σ 0).toNat → I 1001 v = σ (7 + v)) ∧ (∀ v, v < 14 → I 1002 v = 0) ∧ (∀ a b, a < 14 → b < 14 → I (1006 + a) b = TBz σ a b) ∧ (I 1020 2 = 0 ∧ I 1020 1 = 930) ∧ (I 1021 2 = 0 ∧ I 1021 1 = 930)
theorem GW.keep {n : Int} {σ : Nat → Int} {I I' : Ii} (h : GW n σ I) (e : ∀ k, 1000 ≤ k → k < 1022 → I' k = I k) : GW n σ I' := by
  unfold GW
  rw [e 1000 (by omega) (by omega), e 1001 (by omega) (by omega), e 1002 (by omega) (by omega), e 1020 (by omega) (by omega), e 1021 (by omega) (by omega)]
  refine ⟨h.1, h.2.1, h.2.2.1, h.2.2.2.1, fun a b ha hb => ?_, h.2.2.2.2.2⟩
  rw [e (1006 + a) (by omega) (by omega)]
  exact h.2.2.2.2.1 a b ha hb
abbrev SBl (I : Ii) (k b : Nat) (L : List Int) : Prop := SBr I k b L.length (gB L)
theorem SBr.cong {I : Ii} {k b n : Nat} {T T' : Nat → Int} (h : SBr I k b n T) (e : ∀ j, j < n → T j = T' j) : SBr I k b n T' := by
  obtain ⟨g1, g2, g3, g4, g5, g6, g7, g8, g9, g10, g11⟩ := h
  exact ⟨g1, g2, g3, g4, g5, g6, g7, g8, g9, g10, fun j hj => (g11 j hj).trans (e j hj)⟩
theorem SBl.of {I : Ii} {k b : Nat} {L M : List Int} {n : Nat} {U : Nat → Int} (h : SBr I k b (L.length + n) (ctN (gB L) L.length U)) (hn : n = M.length) (e : ∀ j, j < n → U j = gB M j) : SBl I k b (L ++ M) := by
  subst hn
  show SBr I k b (L ++ M).length (gB (L ++ M))
  rw [List.length_append]
  refine h.cong (fun j hj => ?_)
  unfold ctN
  by_cases c : j < L.length
  · rw [if_pos c, gB_l c]
  · rw [if_neg c, e _ (by omega)]
    show M.getD (j - L.length) 0 = (L ++ M).getD j 0
    rw [gd_r (by omega)]
/-- what stands fast, what stood before, the builder -/
def GN (I0 I : Ii) (k b : Nat) (L : List Int) (N : Int) : Prop := LTP I0 ∧ XG I0 I ∧ SBl I k b L ∧ 1022 ≤ I 999 0 ∧ I 999 0 ≤ N
/-- and the numbers -/
def GM (I0 : Ii) (n : Int) (σ : Nat → Int) (I : Ii) (k b : Nat) (L : List Int) (N : Int) : Prop := LTP I0 ∧ XG I0 I ∧ GW n σ I ∧ SBl I k b L ∧ 1022 ≤ I 999 0 ∧ I 999 0 ≤ N
section GMS
variable {I0 I : Ii} {J : Jj} {n : Int} {σ : Nat → Int} {k b : Nat} {L : List Int} {N : Int}
theorem GM.k6 (h : GM I0 n σ I k b L N) : dS I k = 6 := h.2.2.2.1.1
theorem GM.wk {N' : Int} (h : GM I0 n σ I k b L N) (hN : N ≤ N') : GM I0 n σ I k b L N' := ⟨h.1, h.2.1, h.2.2.1, h.2.2.2.1, h.2.2.2.2.1, Int.le_trans h.2.2.2.2.2 hN⟩
theorem GM.sbx {I' : Ii} {b' : Nat} {L' : List Int} {N' : Int} (h : GM I0 n σ I k b L N) (hs : SBl I' k b' L') (hx : SBX I k b I' b') (hN : I' 999 0 ≤ N') : GM I0 n σ I' k b' L' N' := by
  obtain ⟨h1, h2, h3, h4, h5, h6⟩ := h
  have hk := h4.2.2.2.2.1
  have hb := h4.2.2.2.2.2.1
  refine ⟨h1, h2.ex hx.1 h5 (fun q hq z => by omega), h3.keep (fun q q1 q2 => (hx.1.2 q (by omega) (by omega)).1 (fun z => by omega)), hs, Int.le_trans h5 hx.1.1, hN⟩
/-- a text is appended that stands fast -/
theorem GM.lit {Q : Nat → Ii → Jj → Prop} (h : GM I0 n σ I k b L N) (hN : N ≤ 790000) {i : Nat} (w : List Int) (hi : kLit[i]? = some w) (hlen : L.length + w.length ≤ 900) (hw : ∀ j, j < w.length → 0 ≤ w.getD j 0 ∧ w.getD j 0 < 128) (hq : ∀ (I' : Ii) (b' : Nat), GM I0 n σ I' k b' (L ++ w) (N + 1) → Q k I' J) : wp_J4_append_15ec4 k (900 + 2 * i) I J Q := by
  have h' := h
  obtain ⟨h1, h2, h3, h4, h5, h6⟩ := h
  have hl := h2.ltp h1
  have ht := TXr.lit hl hi (by omega)
  obtain ⟨-, -, -, -, -, hby⟩ := lit_facts hl hi
  have hi15 : i < 15 := (List.getElem?_eq_some_iff.mp hi).1
  have hk := h4.2.2.2.2.1
  have hb := h4.2.2.2.2.2.1
  refine SB_app h4 (by omega) ht hlen (fun j hj => by rw [hby j hj]; exact hw j hj) ⟨by omega, by omega⟩ ⟨by omega, by omega⟩ ⟨by omega, by omega, by omega, by omega⟩ (fun I' b' hs hx hn => hq I' b' (h'.sbx (SBl.of hs rfl hby) hx (by omega)))
/-- a number is appended -/
theorem GM.int {Q : Nat → Ii → Jj → Prop} {x : Int} (h : GM I0 n σ I k b L N) (hN : N ≤ 790000) (hx : 0 ≤ x ∧ x < 100) (hlen : L.length + 2 ≤ 900) (hq : ∀ (I' : Ii) (b' : Nat), GM I0 n σ I' k b' (L ++ dgL x) (N + 1) → Q k I' J) : wp_J4_append_bf812 k x I J Q := by
  have h' := h
  obtain ⟨h1, h2, h3, h4, h5, h6⟩ := h
  refine SB_int h4 (h2.ltp h1) (by omega) hx hlen (fun I' b' hs hx2 hn => hq I' b' (h'.sbx (SBl.of hs (by rw [dgL_len]; rfl) (fun j hj => ?_)) hx2 (by omega)))
  unfold digL at hj
  unfold digN
  by_cases c : x < 10
  · rw [if_pos c] at hj ⊢
    have : j = 0 := by omega
    subst this
    unfold dgL
    rw [if_pos c]
    rfl
  · rw [if_neg c] at hj ⊢
    unfold dgL
    rw [if_neg c]
    have : j = 0 ∨ j = 1 := by omega
    rcases this with rfl | rfl <;> rfl
/-- a name is made and appended -/
theorem GM.name {Q : Nat → Ii → Jj → Prop} {v : Nat} (h : GM I0 n σ I k b L N) (hN : N ≤ 780000) (hv : v < 14) (hlen : L.length + 2 ≤ 900) (hq : ∀ (I' : Ii) (b' : Nat), GM I0 n σ I' k b' (L ++ nmL v) (N + 9) → Q k I' J) : wp_X12_name (v : Int) I J (fun t I1 J1 => (dS I1 k = 6) ∧ wp_J4_append_15ec4 k t I1 J1 Q) := by
  have h' := h
  obtain ⟨h1, h2, h3, h4, h5, h6⟩ := h
  have hk := h4.2.2.2.2.1
  have hb := h4.2.2.2.2.2.1
  refine w_name (h2.ltp h1) ⟨h5, by omega⟩ hv (fun I1 t ht y0 y1 t1 t2 x1 n1 => ?_)
  have ek := x1.2 k (by omega) (by omega)
  have eb := x1.2 b (by omega) (by omega)
  have ik := ek.1 (fun q => q)
  have ib := eb.1 (fun q => q)
  have dk := ExW.ds x1 (k := k) (by omega) (by omega)
  have db := ExW.ds x1 (k := b) (by omega) (by omega)
  have m1 := x1.1
  have s1 : SBl I1 k b L := by
    obtain ⟨g1, g2, g3, g4, g5, g6, g7, g8, g9, g10, g11⟩ := h4
    refine ⟨by rw [dk.1]; exact g1, by rw [ik]; exact g2, by rw [ik]; exact g3, by rw [ik]; exact g4, by omega, by omega, g7, by rw [db.1]; exact g8, by rw [db.2]; exact g9, fun j hj => ?_, fun j hj => ?_⟩
    · rw [db.2] at hj; rw [ib]; exact g10 j hj
    · rw [ib]; exact g11 j hj
  have g1 : GM I0 n σ I1 k b L (N + 8) := h'.sbx s1 ⟨x1.weaken (fun _ q => q.elim), Or.inl rfl⟩ (by omega)
  refine ⟨s1.1, SB_app s1 (by omega) ht hlen (fun j hj => ?_) ⟨by omega, by omega⟩ ⟨by omega, by omega⟩ ⟨by omega, by omega, by omega, by omega⟩ (fun I' b' hs hx hn => hq I' b' (g1.sbx (SBl.of hs rfl (fun j hj => ?_)) hx (by omega)))⟩
  · have : j = 0 ∨ j = 1 := by omega
    rcases this with rfl | rfl
    · rw [y0]; exact ⟨by decide, by decide⟩
    · rw [y1]; omega
  · have : j = 0 ∨ j = 1 := by omega
    rcases this with rfl | rfl
    · rw [y0]; rfl
    · rw [y1]; rfl
theorem GM.gn (h : GM I0 n σ I k b L N) : GN I0 I k b L N := ⟨h.1, h.2.1, h.2.2.2⟩
theorem GN.gm (h : GN I0 I k b L N) (hg : GW n σ I) : GM I0 n σ I k b L N := ⟨h.1, h.2.1, hg, h.2.2⟩
/-- one of the world's numbers is written -/
theorem GN.put {K i : Nat} {x : Int} (h : GN I0 I k b L N) (hK : 1000 ≤ K ∧ K < 1020) : GN I0 (up2 I K i x) k b L N := by
  obtain ⟨h1, h2, h4, h5, h6⟩ := h
  have hk := h4.2.2.2.2.1
  have hb := h4.2.2.2.2.2.1
  have o : ∀ q, q ≠ K → up2 I K i x q = I q := fun q hq => up2_key hq
  have s : ∀ q, dS (up2 I K i x) q = dS I q ∧ dL (up2 I K i x) q = dL I q := fun q => ⟨up2_dS (by omega), up2_dL (by omega)⟩
  have n : up2 I K i x 999 0 = I 999 0 := up2_9 (by omega)
  refine ⟨h1, ⟨fun q q1 q2 => (o q (by omega)).trans (h2.1 q q1 q2), fun q q1 q2 => (o _ (by omega)).trans (h2.2 q q1 q2)⟩, ?_, by rw [n]; exact h5, by rw [n]; exact h6⟩
  obtain ⟨g1, g2, g3, g4, g5, g6, g7, g8, g9, g10, g11⟩ := h4
  refine ⟨by rw [(s k).1]; exact g1, by rw [o k (by omega)]; exact g2, by rw [o k (by omega)]; exact g3, by rw [o k (by omega)]; exact g4, by rw [n]; exact g5, by rw [n]; exact g6, g7, by rw [(s b).1]; exact g8, by rw [(s b).2]; exact g9, fun j hj => ?_, fun j hj => ?_⟩
  · rw [(s b).2] at hj; rw [o b (by omega)]; exact g10 j hj
  · rw [o b (by omega)]; exact g11 j hj
theorem GM.put {n' : Int} {σ' : Nat → Int} {K i : Nat} {x : Int} (h : GM I0 n σ I k b L N) (hK : 1000 ≤ K ∧ K < 1020) (hg : GW n' σ' (up2 I K i x)) : GM I0 n' σ' (up2 I K i x) k b L N := (h.gn.put hK).gm hg
end GMS
