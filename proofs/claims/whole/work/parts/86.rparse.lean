/-! ===== reading a text: the reference ===== -/
/-- the reference's tokens: the one behind p is looked at; no fault yet -/
def LX (B : Nat → Int) (E d p : Nat) (I : Ii) (J : Jj) : Prop := I 0 8 = 0 ∧ I 0 9 = -1 ∧ I 0 10 = -1 ∧ LK B E p I J ∧ I 0 3 = (E : Int) ∧ I 1 = B ∧ I 0 43 = (d : Int) ∧ p ≤ E ∧ E ≤ 800 ∧ (∀ i, i < E → 0 ≤ B i ∧ B i ≤ 255)
/-- the reference has told a fault -/
def RF (c : Int) (s d : Nat) (I : Ii) : Prop := (1 ≤ c ∧ c ≤ 6) ∧ I 0 8 = c ∧ I 0 9 = (s : Int) ∧ I 0 10 = (d : Int)
section RPA
variable {I : Ii} {J : Jj} {B : Nat → Int} {E d p : Nat}
theorem soK_1 {k : Int} (h : 0 ≤ k ∧ k ≤ 6) : soK k = 1 ↔ k = 1 := by unfold soK; (repeat' split) <;> omega
theorem soK_2 {k : Int} (h : 0 ≤ k ∧ k ≤ 6) : soK k = 2 ↔ k = 2 := by unfold soK; (repeat' split) <;> omega
theorem soK_0 {k : Int} (h : 0 ≤ k ∧ k ≤ 6) : soK k = 0 ↔ k = 0 := by unfold soK; (repeat' split) <;> omega
theorem soK_3 {k : Int} (h : 0 ≤ k ∧ k ≤ 6) : soK k = 3 ↔ (k = 3 ∨ k = 4 ∨ k = 5) := by unfold soK; (repeat' split) <;> omega
theorem soK_4 {k : Int} (h : 0 ≤ k ∧ k ≤ 6) : soK k = 4 ↔ k = 6 := by unfold soK; (repeat' split) <;> omega
theorem soK_b (k : Int) : 0 ≤ soK k ∧ soK k ≤ 4 := by unfold soK; (repeat' split) <;> omega
theorem good_of (h : I 0 8 = 0) {Q : Int → Ii → Jj → Prop} (hq : Q 1 I J) : wp_X12_isGood I J Q := ⟨rgK (by omega), fun z => absurd h z, fun _ => hq⟩
theorem bad_of {c : Int} {s : Nat} (h : RF c s d I) {Q : Int → Ii → Jj → Prop} (hq : Q 0 I J) : wp_X12_isGood I J Q := ⟨rgK (by have := h.1; have := h.2.1; omega), fun _ => hq, fun z => by have := h.1; have := h.2.1; omega⟩
theorem wrongB_of {c x : Int} {s : Nat} (h : RF c s d I) {Q : Ii → Jj → Prop} (hq : Q I J) : wp_X12_wrong x I J Q := ⟨rgK (by have := h.1; have := h.2.1; omega), fun z => by have := h.1; have := h.2.1; omega, fun _ => hq⟩
theorem wrong_of {c x : Int} (h : LX B E d p I J) (hx : 1 ≤ x ∧ x ≤ 6) (hc : c = if tK B E p = 6 then 1 else x) {Q : Ii → Jj → Prop} (hq : ∀ I', RF c (tS B E p) d I' → Same W_X12_wrong I J I' J → Q I' J) : wp_X12_wrong x I J Q := by
  obtain ⟨h8, h9, h10, hL, h3, hB, h43, -⟩ := h
  have kb := tK_b (B := B) (E := E) (p := p)
  have k4 := soK_4 kb
  have h6 := hL.2.2.1
  have h5 := hL.1
  refine fr_X12_wrong (P := fun I' J' => RF c (tS B E p) d I' ∧ J' = J) ?_ (fun I' J' q s => by obtain ⟨q1, rfl⟩ := q; exact hq I' q1 s)
  have go : ∀ z, z = c → B_X12_wrong_22 x (fun I' J' => RF c (tS B E p) d I' ∧ J' = J) z I J := by
    intro z hz I3 e3 I4 e4 I5 e5
    subst hz
    refine ⟨⟨by split at hc <;> omega, ?_, ?_, ?_⟩, rfl⟩
    · rw [e5, up2_ne (by omega), e4, up2_ne (by omega), e3, up2_self]
    · rw [e5, up2_ne (by omega), e4, up2_self, e3, up2_ne (by omega)]; exact h5
    · rw [e5, up2_self, e4, up2_ne (by omega), e3, up2_ne (by omega)]; exact h43
  have sb : 0 ≤ soK (tK B E p) ∧ soK (tK B E p) ≤ 4 := by unfold soK; (repeat' split) <;> omega
  refine ⟨rgK (by omega), fun _ => ⟨rgK (by omega), fun z => go x ?_, fun z => go 1 ?_⟩, fun z => absurd (show I 0 8 ≤ 0 by omega) z⟩
  · rw [hc, if_neg (fun y => z (by rw [h6]; exact k4.mpr y))]
  · rw [hc, if_pos (k4.mp (by rw [← h6]; exact z))]
theorem goOn_of (h : LX B E d p I J) {Q : Ii → Jj → Prop} (hq : ∀ I' J', LX B E d (tE B E p) I' J' → Same W_X12_goOn I J I' J' → Q I' J') : wp_X12_goOn I J Q := by
  obtain ⟨h8, h9, h10, hL, h3, hB, h43, hp, hE, hb⟩ := h
  have b1 := tE_b (B := B) hp
  refine fr_X12_goOn (s_goOn (p := tE B E p) h3 hL.2.1 b1.2.1 hE hB hb) (fun I' J' q s => hq I' J' ⟨s.i.trans h8, s.i.trans h9, s.i.trans h10, ?_, s.i.trans h3, (s.k).trans hB, s.i.trans h43, b1.2.1, hE, hb⟩ s)
  exact q
theorem number_of {lo hi : Int} (h : LX B E d p I J) (hl : 0 ≤ lo ∧ lo ≤ 999 ∧ 0 ≤ hi ∧ hi ≤ 999) {Q : Int → Ii → Jj → Prop} (h1 : nOK B E lo hi p → ∀ I' J', LX B E d (tE B E p) I' J' → Same W_X12_number I J I' J' → Q (tN B E p) I' J') (h0 : ¬ nOK B E lo hi p → ∀ v I', RF (numC B E p) (tS B E p) d I' → Same W_X12_number I J I' J → Q v I' J) : wp_X12_number lo hi I J Q := by
  have h8 := h.1
  have hL := h.2.2.2.1
  have hp := h.2.2.2.2.2.2.2.1
  have kb := tK_b (B := B) (E := E) (p := p)
  have h6 := hL.2.2.1
  have k2 := soK_2 kb
  have sb : 0 ≤ soK (tK B E p) ∧ soK (tK B E p) ≤ 4 := by unfold soK; (repeat' split) <;> omega
  refine fr_X12_number (P := fun v I' J' => (nOK B E lo hi p ∧ v = tN B E p ∧ LX B E d (tE B E p) I' J') ∨ (¬ nOK B E lo hi p ∧ RF (numC B E p) (tS B E p) d I' ∧ J' = J)) ?_ (fun v I' J' q s => ?_)
  · refine good_of h8 ⟨fun z => absurd z (by decide), fun _ => ⟨rgK (by omega), fun c => ?_, fun c => ?_⟩⟩
    · have c2 : tK B E p = 2 := k2.mp (by rw [← h6]; exact c)
      have h7 := hL.2.2.2.2.1 c2
      have nb := tN_b (B := B) hp c2
      refine good_of h8 ⟨fun z => absurd z (by decide), fun _ => ?_⟩
      rw [h7]
      refine fr_X12_isIn (s_isInC (rgK (by omega)) (rgK (by omega)) (rgK (by omega))) (fun v5 hv => ?_)
      rcases hv with ⟨rfl, a⟩ | ⟨rfl, a⟩
      · refine ⟨fun _ => good_of h8 ⟨fun z => absurd z (by decide), fun _ => goOn_of h (fun I' J' q s => Or.inl ⟨⟨c2, a⟩, rfl, q⟩)⟩, fun z => absurd z (by decide)⟩
      · refine ⟨fun z => absurd rfl z, fun _ => wrong_of h (c := numC B E p) (by decide) (by unfold numC; rw [if_pos c2, if_neg (by omega)]) (fun I6 q s => bad_of q ⟨fun _ => Or.inr ⟨fun z => a z.2, q, rfl⟩, fun z => absurd rfl z⟩)⟩
    · have c2 : tK B E p ≠ 2 := fun z => c (by rw [h6]; exact k2.mpr z)
      refine wrong_of h (c := numC B E p) (by decide) (by unfold numC; rw [if_neg c2]; split <;> rfl) (fun I6 q s => ?_)
      exact bad_of q ⟨fun _ => bad_of q ⟨fun _ => Or.inr ⟨fun z => c2 z.1, q, rfl⟩, fun z => absurd rfl z⟩, fun z => absurd rfl z⟩
  · rcases q with ⟨a, rfl, q⟩ | ⟨a, q, rfl⟩
    · exact h1 a I' J' q s
    · exact h0 a v I' q s
theorem numberB_of {c lo hi : Int} {s : Nat} (h : RF c s d I) {Q : Int → Ii → Jj → Prop} (hq : ∀ v, Q v I J) : wp_X12_number lo hi I J Q :=
  bad_of h ⟨fun _ => bad_of h ⟨fun _ => bad_of h ⟨fun _ => hq _, fun z => absurd rfl z⟩, fun z => absurd rfl z⟩, fun z => absurd rfl z⟩
theorem sign_of {x k : Int} (h : LX B E d p I J) (hx : x = 59 ∧ k = 3 ∨ x = 40 ∧ k = 4 ∨ x = 41 ∧ k = 5) {Q : Int → Ii → Jj → Prop} (h1 : tK B E p = k → Q 1 I J) (h0 : tK B E p ≠ k → Q 0 I J) : wp_X12_isSign x I J Q := by
  have hL := h.2.2.2.1
  have kb := tK_b (B := B) (E := E) (p := p)
  have h6 := hL.2.2.1
  have k3 := soK_3 kb
  have v3 := hL.2.2.2.2.2.1
  have v4 := hL.2.2.2.2.2.2.1
  have v5 := hL.2.2.2.2.2.2.2
  have sb : 0 ≤ soK (tK B E p) ∧ soK (tK B E p) ≤ 4 := by unfold soK; (repeat' split) <;> omega
  refine good_of h.1 ⟨fun z => absurd z (by decide), fun _ => ⟨rgK (by omega), fun c => h0 (fun z => c (by rw [h6, k3]; omega)), fun c => ?_⟩⟩
  have hk : tK B E p = 3 ∨ tK B E p = 4 ∨ tK B E p = 5 := k3.mp (by rw [← h6]; exact c)
  have vv : (tK B E p = 3 ∧ I 0 7 = 59) ∨ (tK B E p = 4 ∧ I 0 7 = 40) ∨ (tK B E p = 5 ∧ I 0 7 = 41) := by
    rcases hk with z | z | z
    · exact Or.inl ⟨z, v3 z⟩
    · exact Or.inr (Or.inl ⟨z, v4 z⟩)
    · exact Or.inr (Or.inr ⟨z, v5 z⟩)
  exact ⟨rgK (by omega), rgK (by omega), fun c2 => h0 (by omega), fun c2 => h1 (by omega)⟩
theorem must_of {x k : Int} (h : LX B E d p I J) (hx : x = 59 ∧ k = 3 ∨ x = 40 ∧ k = 4 ∨ x = 41 ∧ k = 5) {Q : Ii → Jj → Prop} (h1 : tK B E p = k → ∀ I' J', LX B E d (tE B E p) I' J' → Same W_X12_mustSign I J I' J' → Q I' J') (h0 : tK B E p ≠ k → ∀ I', RF 1 (tS B E p) d I' → Same W_X12_mustSign I J I' J → Q I' J) : wp_X12_mustSign x I J Q := by
  refine fr_X12_mustSign (P := fun I' J' => (tK B E p = k ∧ LX B E d (tE B E p) I' J') ∨ (tK B E p ≠ k ∧ RF 1 (tS B E p) d I' ∧ J' = J)) ?_ (fun I' J' q s => ?_)
  · refine good_of h.1 ⟨fun z => absurd z (by decide), fun _ => sign_of h hx (fun c => ⟨fun _ => good_of h.1 ⟨fun z => absurd z (by decide), fun _ => goOn_of h (fun I' J' q s => Or.inl ⟨c, q⟩)⟩, fun z => absurd z (by decide)⟩) (fun c => ⟨fun z => absurd rfl z, fun _ => ?_⟩)⟩
    exact wrong_of h (c := 1) (by decide) (by split <;> rfl) (fun I6 q s => bad_of q ⟨fun _ => Or.inr ⟨c, q, rfl⟩, fun z => absurd rfl z⟩)
  · rcases q with ⟨a, q⟩ | ⟨a, q, rfl⟩
    · exact h1 a I' J' q s
    · exact h0 a I' q s
theorem mustB_of {c x : Int} {s : Nat} (h : RF c s d I) {Q : Ii → Jj → Prop} (hq : Q I J) : wp_X12_mustSign x I J Q :=
  bad_of h ⟨fun _ => bad_of h ⟨fun _ => hq, fun z => absurd rfl z⟩, fun z => absurd rfl z⟩
theorem isWord_ofX {w : Int64} (h : LX B E d p I J) {Q : Int → Ii → Jj → Prop} (h1 : isW B E p w → Q 1 I J) (h0 : ¬ isW B E p w → Q 0 I J) : wp_X12_isWord w I J Q := by
  have hL := h.2.2.2.1
  have kb := tK_b (B := B) (E := E) (p := p)
  have h6 := hL.2.2.1
  have k1 := soK_1 kb
  have sb : 0 ≤ soK (tK B E p) ∧ soK (tK B E p) ≤ 4 := by unfold soK; (repeat' split) <;> omega
  refine good_of h.1 ⟨fun z => absurd z (by decide), fun _ => ⟨rgK (by omega), fun c => h0 (fun z => c (by rw [h6]; exact k1.mpr z.1)), fun c => ?_⟩⟩
  have c1 : tK B E p = 1 := k1.mp (by rw [← h6]; exact c)
  rw [hL.2.2.2.1 c1]
  exact ⟨fun c2 => h0 (fun z => c2 (cmpL_eq.mpr z.2)), fun c2 => h1 ⟨c1, cmpL_eq.mp c2⟩⟩
theorem s_named (hM : MS (I 2)) : wp_X12_named I J (fun r _ _ => r = nmZ (J 7) (J 0 14) (I 2 0).toNat) := by
  have b0 := ms_0 hM
  refine ⟨15, loopN (L := fun n t v => L_X12_named_4 _ n t v I J) (fun v t => t = nmZ (J 7) (J 0 14) v) (N := (I 2 0).toNat) (fun n v t hv ht k => ?_) 15 0 (-1) (by omega) (by omega) rfl⟩
  refine ls_X12_named_4 ?_
  unfold Lb_X12_named_4
  refine ⟨rgK (by omega), rgK (by omega), fun c => by rw [ht, show v = (I 2 0).toNat by omega], fun c => ⟨by omega, fun c2 => k (by omega) _ ?_, fun c2 => k (by omega) _ ?_⟩⟩
  · rw [show ((v : Int)).toNat = v by omega] at c2
    unfold nmZ
    rw [if_neg (fun z => c2 (cmpL_eq.mpr z)), ht]
  · rw [show ((v : Int)).toNat = v by omega] at c2
    unfold nmZ
    rw [if_pos (cmpL_eq.mp c2)]
/-- a vertex that is looked at -/
theorem seen_of (h : LX B E d p I J) (hM : MS (I 2)) {Q : Int → Ii → Jj → Prop} (h1 : tK B E p = 1 → nmZ (J 7) (tW B E p) (I 2 0).toNat ≠ -1 → Q (nmZ (J 7) (tW B E p) (I 2 0).toNat) I J) (h0 : ∀ c, c = (if tK B E p = 1 then 3 else 1) → (tK B E p = 1 → nmZ (J 7) (tW B E p) (I 2 0).toNat = -1) → ∀ v I', -1 ≤ v → v ≤ 13 → RF c (tS B E p) d I' → Same W_X12_wrong I J I' J → Q v I' J) : wp_X12_seenVertex I J Q := by
  have hL := h.2.2.2.1
  have kb := tK_b (B := B) (E := E) (p := p)
  have h6 := hL.2.2.1
  have k1 := soK_1 kb
  have b0 := ms_0 hM
  have sb : 0 ≤ soK (tK B E p) ∧ soK (tK B E p) ≤ 4 := by unfold soK; (repeat' split) <;> omega
  have nb := nmZ_b (J 7) (J 0 14) (I 2 0).toNat
  refine good_of h.1 ⟨fun z => absurd z (by decide), fun _ => ⟨rgK (by omega), fun c => ?_, fun c => ?_⟩⟩
  · have c1 : tK B E p = 1 := k1.mp (by rw [← h6]; exact c)
    have hw := hL.2.2.2.1 c1
    refine fr_X12_named (s_named hM) (fun v hv => ?_)
    subst hv
    refine good_of h.1 ⟨fun z => absurd z (by decide), fun _ => ⟨rgK (by omega), fun c2 => ?_, fun c2 => ?_⟩⟩
    · rw [hw] at c2 ⊢
      exact h1 c1 c2
    · exact wrong_of h (c := 3) (by decide) (by rw [if_neg (by omega)]) (fun I6 q s => h0 3 (by rw [if_pos c1]) (fun _ => by rw [← hw]; exact c2) _ I6 (by omega) (by omega) q s)
  · have c1 : tK B E p ≠ 1 := fun z => c (by rw [h6]; exact k1.mpr z)
    refine wrong_of h (c := 1) (by decide) (by split <;> rfl) (fun I6 q s => ?_)
    have e2 : I6 2 = I 2 := s.k
    refine fr_X12_named (s_named (by rw [e2]; exact hM)) (fun v hv => ?_)
    rw [e2] at hv
    subst hv
    exact bad_of q ⟨fun _ => h0 1 (by rw [if_neg c1]) (fun z => absurd z c1) _ I6 (by omega) (by omega) q s, fun z => absurd rfl z⟩
theorem seenB_of {c : Int} {s : Nat} (h : RF c s d I) (hM : MS (I 2)) {Q : Int → Ii → Jj → Prop} (hq : ∀ v, -1 ≤ v → v ≤ 13 → Q v I J) : wp_X12_seenVertex I J Q := by
  have b0 := ms_0 hM
  have nb := nmZ_b (J 7) (J 0 14) (I 2 0).toNat
  refine bad_of h ⟨fun _ => fr_X12_named (s_named hM) (fun v hv => ?_), fun z => absurd rfl z⟩
  subst hv
  exact bad_of h ⟨fun _ => hq _ (by omega) (by omega), fun z => absurd rfl z⟩
/-- a vertex that is told -/
theorem told_of (h : LX B E d p I J) (hM : MS (I 2)) {Q : Int → Ii → Jj → Prop} (h1 : tK B E p = 1 → nmZ (J 7) (tW B E p) (I 2 0).toNat ≠ -1 → ∀ I' J', LX B E d (tE B E p) I' J' → Same W_X12_goOn I J I' J' → Q (nmZ (J 7) (tW B E p) (I 2 0).toNat) I' J') (h0 : ∀ c, c = (if tK B E p = 1 then 3 else 1) → (tK B E p = 1 → nmZ (J 7) (tW B E p) (I 2 0).toNat = -1) → ∀ v I', -1 ≤ v → v ≤ 13 → RF c (tS B E p) d I' → Same W_X12_wrong I J I' J → Q v I' J) : wp_X12_toldVertex I J Q :=
  seen_of h hM (fun a b => good_of h.1 ⟨fun z => absurd z (by decide), fun _ => goOn_of h (fun I' J' q s => h1 a b I' J' q s)⟩) (fun c hc hn v I' v1 v2 q s => bad_of q ⟨fun _ => h0 c hc hn v I' v1 v2 q s, fun z => absurd rfl z⟩)
theorem toldB_of {c : Int} {s : Nat} (h : RF c s d I) (hM : MS (I 2)) {Q : Int → Ii → Jj → Prop} (hq : ∀ v, -1 ≤ v → v ≤ 13 → Q v I J) : wp_X12_toldVertex I J Q :=
  seenB_of h hM (fun v v1 v2 => bad_of h ⟨fun _ => hq v v1 v2, fun z => absurd rfl z⟩)
end RPA
