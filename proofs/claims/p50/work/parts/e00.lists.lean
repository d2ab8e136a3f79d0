/-! ===== what was made before stays, but for what is written ===== -/
def ExW (W : Nat → Prop) (I I' : Ii) : Prop := I 999 0 ≤ I' 999 0 ∧ ∀ k : Nat, k ≠ 999 → (k : Int) < I 999 0 → (¬ W k → I' k = I k) ∧ I' (1000000 + k) = I (1000000 + k)
abbrev Ex (I I' : Ii) : Prop := ExW (fun _ => False) I I'
def NX (I : Ii) : Prop := 1022 ≤ I 999 0 ∧ I 999 0 ≤ 700000
theorem ExW.rf {W : Nat → Prop} (I : Ii) : ExW W I I := ⟨Int.le_refl _, fun _ _ _ => ⟨fun _ => rfl, rfl⟩⟩
theorem ExW.trans {W W' W2 : Nat → Prop} {I I' I2 : Ii} (h : ExW W I I') (h' : ExW W' I' I2) (hw : ∀ k, W k → W2 k) (hw' : ∀ k : Nat, k ≠ 999 → (k : Int) < I 999 0 → W' k → W2 k) : ExW W2 I I2 := by
  refine ⟨Int.le_trans h.1 h'.1, fun k h9 hk => ?_⟩
  have hk' : (k : Int) < I' 999 0 := Int.lt_of_lt_of_le hk h.1
  refine ⟨fun hn => ?_, ?_⟩
  · rw [(h'.2 k h9 hk').1 (fun q => hn (hw' k h9 hk q)), (h.2 k h9 hk).1 (fun q => hn (hw k q))]
  · rw [(h'.2 k h9 hk').2, (h.2 k h9 hk).2]
theorem ExW.weaken {W W2 : Nat → Prop} {I I' : Ii} (h : ExW W I I') (hw : ∀ k, W k → W2 k) : ExW W2 I I' := ⟨h.1, fun k h9 hk => ⟨fun hn => (h.2 k h9 hk).1 (fun q => hn (hw k q)), (h.2 k h9 hk).2⟩⟩
theorem ExW.nw {W : Nat → Prop} {I : Ii} {t z : Int} {d : Nat → Int} (hN : 1022 ≤ I 999 0 ∧ I 999 0 ≤ 900000) : ExW W I (nwI I t z d) := by
  refine ⟨?_, fun k h9 hk => ?_⟩
  · rw [nwI_9]; omega
  · have := nwI_old (t := t) (z := z) (d := d) hN hk h9
    exact ⟨fun _ => this.1, this.2⟩
theorem ExW.up {W : Nat → Prop} {I : Ii} {k i : Nat} {v : Int} (hk : k ≠ 999) (hb : k < 1000000) (hN : I 999 0 ≤ 900000) (hW : W k) : ExW W I (up2 I k i v) := by
  refine ⟨?_, fun j h9 hj => ⟨fun hn => ?_, ?_⟩⟩
  · rw [up2_key (Ne.symm hk)]; exact Int.le_refl _
  · exact up2_key (fun e => hn (by rw [e]; exact hW))
  · exact up2_key (by omega)
theorem up2_9 {I : Ii} {k i : Nat} {v : Int} (hk : k ≠ 999) : up2 I k i v 999 0 = I 999 0 := by rw [up2_key (Ne.symm hk)]
theorem up2_dS {I : Ii} {k i j : Nat} {v : Int} (hb : k < 1000000) : dS (up2 I k i v) j = dS I j := by
  show up2 I k i v (1000000 + j) 0 = _
  rw [up2_key (by omega)]
theorem up2_dL {I : Ii} {k i j : Nat} {v : Int} (hb : k < 1000000) : dL (up2 I k i v) j = dL I j := by
  show up2 I k i v (1000000 + j) 1 = _
  rw [up2_key (by omega)]
theorem ExW.ds {W : Nat → Prop} {I I' : Ii} (h : ExW W I I') {k : Nat} (h9 : k ≠ 999) (hk : (k : Int) < I 999 0) : dS I' k = dS I k ∧ dL I' k = dL I k := by
  have := (h.2 k h9 hk).2
  exact ⟨congrFun this 0, congrFun this 1⟩
theorem shrZ_1 {x : Int} (h : 0 ≤ x ∧ x < 100000) : shrZ x 1 = x / 2 := by
  have := shrZ_nat (a := x.toNat) (k := 1) (by omega) (by omega)
  rw [Int.toNat_of_nonneg h.1] at this
  rw [show (1 : Int) = ((1 : Nat) : Int) from rfl, this]
  show ((x.toNat / 2 : Nat) : Int) = x / 2
  omega
theorem shrZ_0 {x : Int} (h : 0 ≤ x ∧ x < 100000) : shrZ x 0 = x := by
  have := shrZ_nat (a := x.toNat) (k := 0) (by omega) (by omega)
  rw [Int.toNat_of_nonneg h.1] at this
  rw [show (0 : Int) = ((0 : Nat) : Int) from rfl, this]
  show ((x.toNat / 1 : Nat) : Int) = x
  omega
theorem shlZ_0 {x : Int} (h : 0 ≤ x ∧ x < 100000) : shlZ x 0 = x := by
  have := shlZ_nat (a := x.toNat) (k := 0) (by omega) (by omega)
  rw [Int.toNat_of_nonneg h.1] at this
  rw [show (0 : Int) = ((0 : Nat) : Int) from rfl, this]
  show ((x.toNat * 1 : Nat) : Int) = x
  omega
/-! ===== lists of rows ===== -/
def ALr (I : Ii) (k m : Nat) (L : Nat → Nat) : Prop := I k 2 = (m : Int) ∧ 0 ≤ I k 1 ∧ (((I k 1).toNat = 930 ∧ m = 0 ∧ dL I 930 = 0) ∨ (1022 ≤ (I k 1).toNat ∧ I k 1 < I 999 0 ∧ 10 ≤ dL I (I k 1).toNat)) ∧ dS I (I k 1).toNat = 3 ∧ ((m : Int) ≤ dL I (I k 1).toNat ∧ dL I (I k 1).toNat ≤ 290) ∧
  (∀ j, j < m → I (I k 1).toNat j = (L j : Int) ∧ (1022 ≤ L j ∧ (L j : Int) < I 999 0) ∧ dS I (L j) = 1) ∧ ∀ j : Nat, m ≤ j → (j : Int) < dL I (I k 1).toNat → I (I k 1).toNat j = -1
def isAK (k : Nat) : Prop := k = 1020 ∨ k = 1021
section AL
variable {I : Ii} {J : Jj} {k m : Nat} {L : Nat → Nat}
theorem AL_size {Q : Int → Ii → Jj → Prop} (hA : ALr I k m L) (h : Q (m : Int) I J) : wp_Jx4a65c_size_8abf5 k I J Q := by
  unfold wp_Jx4a65c_size_8abf5
  rw [hA.1]
  exact h
theorem AL_get {Q : Nat → Ii → Jj → Prop} (hA : ALr I k m L) {l : Int} (hl : 0 ≤ l ∧ l < (m : Int)) (h : Q (L l.toNat) I J) : wp_Jx4a65c_get_915e3 k l I J Q := by
  obtain ⟨a1, a2, a3, a4, a5, a6, a7⟩ := hA
  have e := a6 l.toNat (by omega)
  unfold wp_Jx4a65c_get_915e3 wp_J15_checkIndex_7cf53 wp_Jx4a65c_elementData_915e3
  rw [a1]
  refine ⟨⟨hl, by omega⟩, a2, ⟨a4, ⟨hl.1, by omega⟩, by rw [e.1]; omega⟩, ?_⟩
  rw [e.1, Int.toNat_natCast]
  exact h
/-- one more row, where there is room -/
theorem AL_put {Q : Ii → Jj → Prop} {v k2 : Nat} (hk : isAK k) (hN : 1022 ≤ I 999 0 ∧ I 999 0 ≤ 900000) (hA : ALr I k m L) (hr : (m : Int) < dL I (I k 1).toNat) (hv : dS I v = 1 ∧ 1022 ≤ v ∧ (v : Int) < I 999 0)
    (h : ∀ I' : Ii, ALr I' k (m + 1) (fun j => if j = m then v else L j) → ExW (fun j => j = k ∨ j = (I k 1).toNat) I I' → I' 999 0 = I 999 0 → I' k 1 = I k 1 → Q I' J) : B_Jx4a65c_add_72be8_11 k v k2 (m : Int) Q (I k 1).toNat I J := by
  obtain ⟨a1, a2, a3, a4, a5, a6, a7⟩ := hA
  have hk9 : k ≠ 999 ∧ k < 1000000 ∧ 1020 ≤ k ∧ k < 1022 := by rcases hk with rfl | rfl <;> omega
  have hN2 := hN.2
  have hD : 1022 ≤ (I k 1).toNat ∧ I k 1 < I 999 0 ∧ 10 ≤ dL I (I k 1).toNat := by
    rcases a3 with c | c
    · rw [c.1, c.2.2] at hr; omega
    · exact c
  generalize hDe : (I k 1).toNat = D at *
  unfold B_Jx4a65c_add_72be8_11
  refine ⟨⟨⟨a4, by omega, hr⟩, hv.1⟩, fun I5 e5 I7 e7 => ?_⟩
  have g1 : ∀ j i, ¬ (j = D ∧ i = m) → ¬ (j = k ∧ i = 2) → I7 j i = I j i := fun j i c1 c2 => by
    rw [e7, up2_ne c2, e5, up2_ne (by rw [Int.toNat_natCast]; exact c1)]
  have gs : ∀ j i, I7 (1000000 + j) i = I (1000000 + j) i := fun j i => g1 _ _ (by omega) (by omega)
  have g9 : I7 999 0 = I 999 0 := g1 _ _ (by omega) (by omega)
  have gk1 : I7 k 1 = I k 1 := g1 _ _ (by omega) (by omega)
  have gDm : I7 D m = (v : Int) := by
    rw [e7, up2_ne (by omega), e5, Int.toNat_natCast, up2_self]
  refine h I7 ⟨?_, by rw [gk1]; exact a2, ?_, ?_, ?_, fun j hj => ?_, fun j hj hj2 => ?_⟩ ⟨by rw [g9]; exact Int.le_refl _, fun j j9 hj => ⟨fun hn => ?_, ?_⟩⟩ g9 gk1
  · rw [e7, up2_self]; omega
  · right
    rw [gk1, hDe, g9]
    refine ⟨hD.1, hD.2.1, ?_⟩
    show 10 ≤ I7 (1000000 + D) 1
    rw [gs]; exact hD.2.2
  · rw [gk1, hDe]
    show I7 (1000000 + D) 0 = 3
    rw [gs]; exact a4
  · rw [gk1, hDe]
    show ((m + 1 : Nat) : Int) ≤ I7 (1000000 + D) 1 ∧ I7 (1000000 + D) 1 ≤ 290
    rw [gs]
    have : dL I D = I (1000000 + D) 1 := rfl
    omega
  · rw [gk1, hDe, g9]
    show I7 D j = (((if j = m then v else L j) : Nat) : Int) ∧ (1022 ≤ (if j = m then v else L j) ∧ (((if j = m then v else L j) : Nat) : Int) < I 999 0) ∧ I7 (1000000 + (if j = m then v else L j)) 0 = 1
    rw [gs]
    by_cases c : j = m
    · rw [if_pos c, c, gDm]
      exact ⟨rfl, hv.2, hv.1⟩
    · rw [if_neg c, g1 _ _ (by omega) (by omega)]
      exact a6 j (by omega)
  · rw [gk1, hDe] at hj2 ⊢
    have hj2 : (j : Int) < I7 (1000000 + D) 1 := hj2
    rw [gs] at hj2
    rw [g1 _ _ (by omega) (by omega)]
    exact a7 j (by omega) hj2
  · funext i
    exact g1 j i (fun c => hn (Or.inr c.1)) (fun c => hn (Or.inl c.1))
  · funext i
    exact gs j i
/-- one more row -/
theorem AL_add {Q : Int → Ii → Jj → Prop} {v : Nat} (hk : isAK k) (hN : NX I) (hA : ALr I k m L) (hm : m ≤ 190) (hv : dS I v = 1 ∧ 1022 ≤ v ∧ (v : Int) < I 999 0)
    (h : ∀ I' : Ii, ALr I' k (m + 1) (fun j => if j = m then v else L j) → ExW (fun j => j = k ∨ (j = (I k 1).toNat ∧ 1022 ≤ j)) I I' → I' 999 0 ≤ I 999 0 + 1 → (I' k 1 = I k 1 ∨ I 999 0 ≤ I' k 1) → Q 1 I' J) : wp_Jx4a65c_add_9ea2d k v I J Q := by
  have hk9 : k ≠ 999 ∧ k < 1000000 ∧ 1020 ≤ k ∧ k < 1022 := by rcases hk with rfl | rfl <;> omega
  obtain ⟨hN1, hN2⟩ := hN
  unfold wp_Jx4a65c_add_9ea2d
  intro I1 e1
  have f1 : ∀ j i, ¬ (j = k ∧ i = 0) → I1 j i = I j i := fun j i c => by rw [e1]; exact up2_ne c
  have f9 : I1 999 0 = I 999 0 := f1 _ _ (by omega)
  have fs : ∀ j i, I1 (1000000 + j) i = I (1000000 + j) i := fun j i => f1 _ _ (by omega)
  have fd : ∀ j, dS I1 j = dS I j := fun j => fs j 0
  have fl : ∀ j, dL I1 j = dL I j := fun j => fs j 1
  have hx1 : ExW (fun j => j = k ∨ (j = (I k 1).toNat ∧ 1022 ≤ j)) I I1 := by rw [e1]; exact ExW.up hk9.1 hk9.2.1 (by omega) (Or.inl rfl)
  have fk1 : I1 k 1 = I k 1 := f1 _ _ (by omega)
  have hA1 : ALr I1 k m L := by
    obtain ⟨a1, a2, a3, a4, a5, a6, a7⟩ := hA
    unfold ALr
    rw [fk1, f9, fd, fl, fl, f1 k 2 (by omega)]
    have hDk : (I k 1).toNat ≠ k := by rcases a3 with c | c <;> omega
    refine ⟨a1, a2, a3, a4, a5, fun j hj => ?_, fun j h1 h2 => ?_⟩
    · rw [f1 _ _ (by omega), fd]; exact a6 j hj
    · rw [f1 _ _ (by omega)]; exact a7 j h1 h2
  have hv1 : dS I1 v = 1 ∧ 1022 ≤ v ∧ (v : Int) < I1 999 0 := by rw [fd, f9]; exact hv
  refine ⟨by rw [fk1]; exact hA.2.1, ?_⟩
  have hA1c := hA1
  obtain ⟨a1, a2, a3, a4, a5, a6, a7⟩ := hA1
  rw [a1]
  unfold wp_Jx4a65c_add_72be8
  refine ⟨a4, ⟨by omega, by omega⟩, ⟨by omega, by omega⟩, fun c => ?_, fun c => ?_⟩
  · refine AL_put (I := I1) (m := m) (L := L) hk ⟨by omega, by omega⟩ hA1c (by omega) hv1 (fun I' hA' hx hn hk1 => h I' hA' (hx1.trans hx (fun _ q => q) (fun j _ hj q => ?_)) (by omega) (Or.inl (hk1.trans fk1)))
    rcases q with q | q
    · exact Or.inl q
    · rw [fk1] at q
      rcases a3 with c3 | c3
      · have := c3.2.2; have := c3.1; have hc : dL I1 (I1 k 1).toNat = dL I1 930 := by rw [c3.1]
        omega
      · exact Or.inr ⟨q, by rw [q, ← fk1]; exact c3.1⟩
  · unfold wp_Jx4a65c_grow_d5877 wp_Jx4a65c_grow_92f84
    rw [a1]
    refine ⟨a2, a4, ⟨by omega, by omega⟩, fun c2 => ?_, fun c2 => ⟨a2, ?_, fun c3 => ?_, fun c3 => ?_⟩⟩
    · -- a longer row
      have hD : 1022 ≤ (I1 k 1).toNat ∧ I1 k 1 < I1 999 0 ∧ 10 ≤ dL I1 (I1 k 1).toNat := by
        rcases a3 with c3 | c3
        · have hc : dL I1 (I1 k 1).toNat = dL I1 930 := by rw [c3.1]
          have := c3.2.2
          omega
        · exact c3
      unfold B_Jx4a65c_grow_92f84_20 wp_J8_newLength_cabcc wp_J9_max_7cf53
      rw [← c, shrZ_1 (by omega)]
      have fin : ∀ z : Int, z = (m : Int) + (m : Int) / 2 → (0 ≤ I1 k 1 ∧ wp_J7_copyOf_1904c (I1 k 1).toNat z I1 J (fun v13 I13 J13 => ∀ I14 : Ii, I14 = up2 I13 k 1 ((v13 : Nat) : Int) → B_Jx4a65c_add_72be8_11 k v (I1 k 1).toNat (m : Int) (fun I3 J3 => Q 1 I3 J3) v13 I14 J13)) := by
        intro z hz
        have hm10 : 10 ≤ m := by omega
        refine ⟨a2, ⟨⟨⟨a4, by omega, by omega⟩, ⟨by omega, by omega⟩, fun j hj => ?_⟩, fun I2 e2 I3 e3 I14 e14 => ?_⟩⟩
        · have e6 := a6 j (by omega)
          right
          rw [e6.1, Int.toNat_natCast]
          exact e6.2.2
        · -- the new row
          generalize hNe : (I1 999 0).toNat = N at *
          have hNi : I1 999 0 = (N : Int) := by omega
          generalize hDe : (I1 k 1).toNat = D at *
          have hDN : D ≠ N := by omega
          have o2 : ∀ j : Nat, j ≠ 999 → (j : Int) < I1 999 0 → I2 j = I1 j ∧ I2 (1000000 + j) = I1 (1000000 + j) := fun j h9 hj => by rw [e2]; exact nwI_old ⟨by omega, by omega⟩ hj h9
          have n2 : I2 N = fun _ => -1 := by rw [e2, ← hNe]; exact nwI_k (by omega)
          have s2 : I2 (1000000 + N) 0 = 3 ∧ I2 (1000000 + N) 1 = z := by rw [e2, ← hNe]; exact nwI_s
          have n9 : I2 999 0 = I1 999 0 + 1 := by rw [e2]; exact nwI_9 _ _ _ _
          have hl2 : dL I2 D = (m : Int) := by show I2 (1000000 + D) 1 = _; rw [(o2 D (by omega) (by omega)).2]; exact c.symm
          have o3 : ∀ j, j ≠ N → I3 j = I2 j := fun j hj => by rw [e3]; exact upr_ne hj
          have n3 : I3 N = va_cpy (I1 D) (fun _ => -1) 0 0 m := by
            rw [e3, upr_self, (o2 D (by omega) (by omega)).1, n2, hl2, Int.toNat_natCast]
          have o4 : ∀ j i, ¬ (j = k ∧ i = 1) → I14 j i = I3 j i := fun j i c9 => by rw [e14]; exact up2_ne c9
          have k4 : I14 k 1 = (N : Int) := by rw [e14, up2_self]
          have t4 : (I14 k 1).toNat = N := by rw [k4]; omega
          have q9 : I14 999 0 = I1 999 0 + 1 := by rw [o4 _ _ (by omega), o3 _ (by omega), n9]
          have qs : ∀ j : Nat, (j : Int) < I1 999 0 → ∀ i, I14 (1000000 + j) i = I1 (1000000 + j) i := fun j hj i => by
            by_cases h9 : j = 999
            · rw [o4 _ _ (by omega), o3 _ (by omega), e2, nwI_o (by omega) (by omega) (by omega)]
            · rw [o4 _ _ (by omega), o3 _ (by omega), (o2 j h9 hj).2]
          have qN0 : dS I14 N = 3 := by show I14 (1000000 + N) 0 = 3; rw [o4 _ _ (by omega), o3 _ (by omega)]; exact s2.1
          have qN1 : dL I14 N = z := by show I14 (1000000 + N) 1 = z; rw [o4 _ _ (by omega), o3 _ (by omega)]; exact s2.2
          have qN : ∀ i : Nat, I14 N i = if i < m then I1 D i else -1 := fun i => by
            rw [o4 _ _ (by omega), n3]
            unfold va_cpy
            by_cases c9 : i < m
            · rw [if_pos ⟨by omega, by omega⟩, if_pos c9]
              congr 1
              omega
            · rw [if_neg (by omega), if_neg c9]
          have hA14 : ALr I14 k m L := by
            refine ⟨?_, by rw [k4]; omega, Or.inr ?_, by rw [t4]; exact qN0, by rw [t4, qN1]; omega, fun j hj => ?_, fun j h1 h2 => ?_⟩
            · rw [o4 _ _ (by omega), o3 _ (by omega), (o2 k hk9.1 (by omega)).1]; exact a1
            · rw [t4, q9, k4, qN1]; omega
            · rw [t4, qN, if_pos hj, q9]
              have e6 := a6 j hj
              refine ⟨e6.1, ⟨e6.2.1.1, by omega⟩, ?_⟩
              show I14 (1000000 + L j) 0 = 1
              rw [qs _ e6.2.1.2]
              exact e6.2.2
            · rw [t4, qN, if_neg (by omega)]
          have hx14 : ExW (fun j => j = k ∨ (j = (I k 1).toNat ∧ 1022 ≤ j)) I1 I14 := by
            refine ⟨by omega, fun j h9 hj => ⟨fun hn => ?_, funext fun i => qs j hj i⟩⟩
            have hjk : j ≠ k := fun e => hn (Or.inl e)
            funext i
            rw [o4 _ _ (fun q => hjk q.1), o3 _ (by omega), (o2 j h9 hj).1]
          have := AL_put (I := I14) (J := J) (k2 := D) (Q := fun I3 J3 => Q 1 I3 J3) hk ⟨by omega, by omega⟩ hA14 (by rw [t4, qN1]; omega) (v := v) ⟨by show I14 (1000000 + v) 0 = 1; rw [qs _ hv1.2.2]; exact hv1.1, hv.2.1, by omega⟩ (fun I' hA' hx hn hk1 => h I' hA' ((hx1.trans hx14 (fun _ q => q) (fun _ _ _ q => q)).trans hx (fun _ q => q) (fun j _ hj q => by
            rcases q with q | q
            · exact Or.inl q
            · rw [t4] at q; omega)) (by omega) (Or.inr (by rw [hk1, k4]; omega)))
          rw [t4] at this
          exact this
      refine ⟨⟨by omega, by omega⟩, ⟨by omega, by omega⟩, fun c4 => ?_, fun c4 => ?_⟩
      · refine ⟨⟨by omega, by omega⟩, fun c5 => by omega, fun c5 => ⟨fun c6 => by omega, fun c6 => fin _ (by omega)⟩⟩
      · omega
    · rcases a3 with c3 | c3
      · exact Or.inl c3.1
      · exact Or.inr c3.1
    · -- the first row
      have hm0 : m = 0 := by
        rcases a3 with c4 | c4
        · exact c4.2.1
        · omega
      subst hm0
      unfold wp_J9_max_7cf53
      refine ⟨⟨by decide, by decide⟩, ⟨by decide, by decide⟩, fun c4 => absurd c4 (by decide), fun c4 => ⟨⟨⟨by decide, by decide⟩, by omega⟩, fun I8 e8 v9 ev I10 e10 => ?_⟩⟩
      subst ev
      generalize hNe : (I1 999 0).toNat = N at *
      have o2 : ∀ j : Nat, j ≠ 999 → (j : Int) < I1 999 0 → I8 j = I1 j ∧ I8 (1000000 + j) = I1 (1000000 + j) := fun j h9 hj => by rw [e8]; exact nwI_old ⟨by omega, by omega⟩ hj h9
      have n2 : I8 N = fun _ => -1 := by rw [e8, ← hNe]; exact nwI_k (by omega)
      have s2 : I8 (1000000 + N) 0 = 3 ∧ I8 (1000000 + N) 1 = 10 := by rw [e8, ← hNe]; exact nwI_s
      have n9 : I8 999 0 = I1 999 0 + 1 := by rw [e8]; exact nwI_9 _ _ _ _
      have o4 : ∀ j i, ¬ (j = k ∧ i = 1) → I10 j i = I8 j i := fun j i c9 => by rw [e10]; exact up2_ne c9
      have k4 : I10 k 1 = (N : Int) := by rw [e10, up2_self]
      have t4 : (I10 k 1).toNat = N := by rw [k4]; omega
      have q9 : I10 999 0 = I1 999 0 + 1 := by rw [o4 _ _ (by omega), n9]
      have qs : ∀ j : Nat, (j : Int) < I1 999 0 → ∀ i, I10 (1000000 + j) i = I1 (1000000 + j) i := fun j hj i => by
        by_cases h9 : j = 999
        · rw [o4 _ _ (by omega), e8, nwI_o (by omega) (by omega) (by omega)]
        · rw [o4 _ _ (by omega), (o2 j h9 hj).2]
      have qN0 : dS I10 N = 3 := by show I10 (1000000 + N) 0 = 3; rw [o4 _ _ (by omega)]; exact s2.1
      have qN1 : dL I10 N = 10 := by show I10 (1000000 + N) 1 = 10; rw [o4 _ _ (by omega)]; exact s2.2
      have qN : ∀ i : Nat, I10 N i = -1 := fun i => by rw [o4 _ _ (by omega), n2]
      have hA10 : ALr I10 k 0 L := by
        refine ⟨?_, by rw [k4]; omega, Or.inr ?_, by rw [t4]; exact qN0, by rw [t4, qN1]; omega, fun j hj => absurd hj (Nat.not_lt_zero _), fun j h1 h2 => ?_⟩
        · rw [o4 _ _ (by omega), (o2 k hk9.1 (by omega)).1]; exact a1
        · rw [t4, q9, k4, qN1]; omega
        · rw [t4, qN]
      have hx14 : ExW (fun j => j = k ∨ (j = (I k 1).toNat ∧ 1022 ≤ j)) I1 I10 := by
        refine ⟨by omega, fun j h9 hj => ⟨fun hn => ?_, funext fun i => qs j hj i⟩⟩
        have hjk : j ≠ k := fun e => hn (Or.inl e)
        funext i
        rw [o4 _ _ (fun q => hjk q.1), (o2 j h9 hj).1]
      have := AL_put (I := I10) (J := J) (k2 := (I1 k 1).toNat) (Q := fun I3 J3 => Q 1 I3 J3) hk ⟨by omega, by omega⟩ hA10 (by rw [t4, qN1]; decide) (v := v) ⟨by show I10 (1000000 + v) 0 = 1; rw [qs _ hv1.2.2]; exact hv1.1, hv.2.1, by omega⟩ (fun I' hA' hx hn hk1 => h I' hA' ((hx1.trans hx14 (fun _ q => q) (fun _ _ _ q => q)).trans hx (fun _ q => q) (fun j _ hj q => by
        rcases q with q | q
        · exact Or.inl q
        · rw [t4] at q; omega)) (by omega) (Or.inr (by rw [hk1, k4]; omega)))
      rw [t4] at this
      exact this
    · exfalso
      rcases a3 with c4 | c4
      · exact c3 c4.1
      · omega
/-- without the last row -/
theorem AL_rem {Q : Nat → Ii → Jj → Prop} {l : Int} (hk : isAK k) (hN : NX I) (hA : ALr I k (m + 1) L) (hl : l = (m : Int)) 
    (h : ∀ I' : Ii, ALr I' k m L → ExW (fun j => j = k ∨ (j = (I k 1).toNat ∧ 1022 ≤ j)) I I' → I' 999 0 = I 999 0 → I' k 1 = I k 1 → Q (L m) I' J) : wp_Jx4a65c_remove_915e3 k l I J Q := by
  subst hl
  have hk9 : k ≠ 999 ∧ k < 1000000 ∧ 1020 ≤ k ∧ k < 1022 := by rcases hk with rfl | rfl <;> omega
  obtain ⟨hN1, hN2⟩ := hN
  obtain ⟨a1, a2, a3, a4, a5, a6, a7⟩ := hA
  have hD : 1022 ≤ (I k 1).toNat ∧ I k 1 < I 999 0 ∧ 10 ≤ dL I (I k 1).toNat := by
    rcases a3 with c | c
    · omega
    · exact c
  have e6 := a6 m (by omega)
  unfold wp_Jx4a65c_remove_915e3 wp_J15_checkIndex_7cf53 wp_Jx4a65c_fastRemove_b59b0 B_Jx4a65c_fastRemove_b59b0_34
  dsimp only
  rw [a1, Int.toNat_natCast]
  generalize hDe : (I k 1).toNat = D at *
  refine ⟨⟨⟨by omega, by omega⟩, by omega⟩, a2, ⟨a4, ⟨by omega, by omega⟩, by rw [e6.1]; omega⟩, fun I1 e1 => ?_⟩
  have f1 : ∀ j i, ¬ (j = k ∧ i = 0) → I1 j i = I j i := fun j i c => by rw [e1]; exact up2_ne c
  rw [f1 k 2 (by omega), a1]
  refine ⟨⟨by omega, by omega⟩, ⟨by omega, by omega⟩, fun _ => fun I6 e6' => ?_, fun c => absurd (by omega) c⟩
  have f2 : ∀ j i, ¬ (j = k ∧ i = 2) → I6 j i = I1 j i := fun j i c => by rw [e6']; exact up2_ne c
  have es : ∀ j i, I6 (1000000 + j) i = I (1000000 + j) i := fun j i => by rw [f2 _ _ (by omega), f1 _ _ (by omega)]
  refine ⟨⟨by show I6 (1000000 + D) 0 = 3; rw [es]; exact a4, by omega, by show _ < I6 (1000000 + D) 1; rw [es]; have : dL I D = I (1000000 + D) 1 := rfl; omega⟩, fun I7 e7 => ?_⟩
  have f3 : ∀ j i, ¬ (j = D ∧ i = m) → I7 j i = I6 j i := fun j i c => by rw [e7]; exact up2_ne (fun q => c ⟨q.1, by have := q.2; omega⟩)
  have g1 : ∀ j i, ¬ (j = D ∧ i = m) → ¬ (j = k ∧ (i = 0 ∨ i = 2)) → I7 j i = I j i := fun j i c c2 => by rw [f3 _ _ c, f2 _ _ (fun q => c2 ⟨q.1, Or.inr q.2⟩), f1 _ _ (fun q => c2 ⟨q.1, Or.inl q.2⟩)]
  have gs : ∀ j i, I7 (1000000 + j) i = I (1000000 + j) i := fun j i => g1 _ _ (by omega) (by omega)
  have gk1 : I7 k 1 = I k 1 := g1 _ _ (by omega) (by omega)
  have g9 : I7 999 0 = I 999 0 := g1 _ _ (by omega) (by omega)
  have gDm : I7 D m = -1 := by
    rw [e7, show ((((m + 1 : Nat) : Int) - 1).toNat) = m by omega, up2_self]
  have gk2 : I7 k 2 = (m : Int) := by
    rw [f3 _ _ (by omega), e6', up2_self]; omega
  have e6k : I D m = (L m : Int) := e6.1
  rw [e6k, Int.toNat_natCast]
  refine h I7 ⟨gk2, by rw [gk1]; exact a2, Or.inr ?_, ?_, ?_, fun j hj => ?_, fun j h1 h2 => ?_⟩ ⟨by omega, fun j h9 hj => ⟨fun hn => ?_, funext fun i => gs j i⟩⟩ g9 gk1
  · rw [gk1, hDe, g9]
    exact ⟨hD.1, hD.2.1, by show 10 ≤ I7 (1000000 + D) 1; rw [gs]; exact hD.2.2⟩
  · rw [gk1, hDe]; show I7 (1000000 + D) 0 = 3; rw [gs]; exact a4
  · rw [gk1, hDe]
    show (m : Int) ≤ I7 (1000000 + D) 1 ∧ I7 (1000000 + D) 1 ≤ 290
    rw [gs]
    have : dL I D = I (1000000 + D) 1 := rfl
    omega
  · rw [gk1, hDe, g9, g1 _ _ (by omega) (by omega)]
    have e := a6 j (by omega)
    exact ⟨e.1, e.2.1, by show I7 (1000000 + L j) 0 = 1; rw [gs]; exact e.2.2⟩
  · rw [gk1, hDe] at h2 ⊢
    by_cases c : j = m
    · rw [c]; exact gDm
    · rw [g1 _ _ (by omega) (by omega)]
      have h2 : (j : Int) < I7 (1000000 + D) 1 := h2
      rw [gs] at h2
      exact a7 j (by omega) h2
  · funext i
    by_cases c : j = D
    · exact absurd (Or.inr ⟨c, by omega⟩) hn
    · exact g1 j i (fun q => c q.1) (fun q => hn (Or.inl q.1))
end AL
