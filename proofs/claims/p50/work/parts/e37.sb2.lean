/-! ===== builders of text: what is appended ===== -/
/-- only the builder and its bytes are written -/
def SBX (I : Ii) (k b : Nat) (I' : Ii) (b' : Nat) : Prop := ExW (fun j => j = k ∨ j = b) I I' ∧ (b' = b ∨ I 999 0 ≤ (b' : Int))
theorem SBX.rf (I : Ii) (k b : Nat) : SBX I k b I b := ⟨ExW.rf I, Or.inl rfl⟩
theorem SBX.trans {I I1 I2 : Ii} {k b b1 b2 : Nat} (h : SBX I k b I1 b1) (h' : SBX I1 k b1 I2 b2) : SBX I k b I2 b2 := by
  have hx := h.1.1
  refine ⟨h.1.trans h'.1 (fun _ q => q) (fun j h9 hj q => ?_), ?_⟩
  · rcases q with q | q
    · exact Or.inl q
    · rcases h.2 with z | z
      · exact Or.inr (by omega)
      · omega
  · rcases h'.2 with z | z
    · rw [z]; exact h.2
    · exact Or.inr (by omega)
/-- the bytes with others behind them -/
def ctN (T : Nat → Int) (n : Nat) (U : Nat → Int) : Nat → Int := fun j => if j < n then T j else U (j - n)
theorem TXr.ex {W : Nat → Prop} {I I' : Ii} {t tb m : Nat} (h : TXr I t tb m) (hx : ExW W I I') (ht : t ≠ 999 ∧ (t : Int) < I 999 0) (hb : tb ≠ 999 ∧ (tb : Int) < I 999 0) (hw : ¬ W t) (hwb : ¬ W tb) : TXr I' t tb m ∧ I' tb = I tb := by
  obtain ⟨a1, a2, a3, a4, a5, a6⟩ := h
  have e1 := (hx.2 t ht.1 ht.2).1 hw
  have e2 := (hx.2 tb hb.1 hb.2).1 hwb
  have d1 := ExW.ds hx ht.1 ht.2
  have d2 := ExW.ds hx hb.1 hb.2
  exact ⟨⟨by rw [d1.1]; exact a1, by rw [e1]; exact a2, by rw [e1]; exact a3, by rw [d2.1]; exact a4, by rw [d2.2]; exact a5, a6⟩, e2⟩
section SBA
variable {I : Ii} {J : Jj} {k b n : Nat} {T : Nat → Int}
theorem SB_app {Q : Nat → Ii → Jj → Prop} {t tb m : Nat} (h : SBr I k b n T) (hN : I 999 0 ≤ 800000) (ht : TXr I t tb m) (hm : n + m ≤ 900) (hby : ∀ j, j < m → 0 ≤ I tb j ∧ I tb j < 128) (ht9 : t ≠ 999 ∧ (t : Int) < I 999 0) (hb9 : tb ≠ 999 ∧ (tb : Int) < I 999 0) (hd : t ≠ k ∧ tb ≠ k ∧ t ≠ b ∧ tb ≠ b)
    (hq : ∀ (I' : Ii) (b' : Nat), SBr I' k b' (n + m) (ctN T n (I tb)) → SBX I k b I' b' → I' 999 0 ≤ I 999 0 + 1 → Q k I' J) : wp_J4_append_15ec4 k t I J Q := by
  unfold wp_J4_append_15ec4 wp_J5_append_cf1ce
  refine ⟨h.1, ht.1, TX_len ht ⟨h.1, h.1, ?_⟩⟩
  rw [h.2.2.2.1]
  refine SB_ens h hN (m := (n : Int) + (m : Int)) ⟨by omega, by omega⟩ (fun I1 b1 h1 l1 c1 x1 n1 => ?_)
  obtain ⟨ht1, etb⟩ := ht.ex x1 ht9 hb9 hd.1 hd.2.1
  have h1' := h1
  obtain ⟨g1, g2, g3, g4, g5, g6, g7, g8, g9, g10, g11⟩ := h1
  have hb1 : tb ≠ b1 := by rcases c1 with c | c <;> omega
  have hbk : t ≠ b1 := by rcases c1 with c | c <;> omega
  refine ⟨g1, g1, ?_⟩
  unfold wp_J5_putStringAt_47b60 wp_J5_inflateIfNeededFor_a7421
  refine ⟨g1, g1, ht1.1, TX_coder ht1 ?_⟩
  rw [g3]
  refine ⟨⟨by decide, by decide⟩, ⟨by decide, by decide⟩, fun _ => ⟨⟨g1, by omega⟩, g1, ht1.1, ?_⟩, fun z => absurd rfl z⟩
  rw [g2, g3, g4, Int.toNat_natCast]
  unfold wp_J0_getBytes_840e7
  refine ⟨ht1.1, TX_coder ht1 ⟨⟨by decide, by decide⟩, ⟨by decide, by decide⟩, fun z => absurd rfl z, fun _ => ?_⟩⟩
  have ht1' := ht1
  obtain ⟨a1, a2, a3, a4, a5, a6⟩ := ht1
  rw [a2, Int.toNat_natCast, shl0 (by omega), a5]
  refine ⟨⟨a1, by omega⟩, ⟨a1, by omega⟩, ⟨a4, by omega⟩, ⟨⟨⟨⟨a4, g8⟩, by omega⟩, ⟨⟨by decide, by omega⟩, by omega, by omega⟩, ⟨by omega, by omega⟩, fun j hj => ?_⟩, by decide, by omega⟩, fun I11 e11 => ?_⟩
  · rw [etb, show ((0 : Int).toNat + j) = j by show 0 + j = j; omega]
    exact hby j (by omega)
  have o11 : ∀ q, q ≠ b1 → I11 q = I1 q := fun q hq1 => by rw [e11]; exact upr_ne hq1
  have s11 : ∀ q, dS I11 q = dS I1 q ∧ dL I11 q = dL I1 q := fun q => by
    have := o11 (1000000 + q) (by omega)
    exact ⟨congrFun this 0, congrFun this 1⟩
  refine ⟨by rw [(s11 k).1]; exact g1, by rw [(s11 k).1]; exact g1, fun I10 e10 => ?_⟩
  have o10 : ∀ q, q ≠ b1 → q ≠ k → I10 q = I1 q := fun q q1 q2 => by rw [e10, up2_key q2]; exact o11 q q1
  have s10 : ∀ q, dS I10 q = dS I1 q ∧ dL I10 q = dL I1 q := fun q => by
    have := o10 (1000000 + q) (by omega) (by omega)
    exact ⟨congrFun this 0, congrFun this 1⟩
  have k10 : ∀ i, i ≠ 3 → I10 k i = I1 k i := fun i hi => by rw [e10, up2_ne (by omega), o11 k (by omega)]
  have B10 : ∀ j : Nat, I10 b1 j = if n ≤ j ∧ j < n + m then I tb (j - n) else I1 b1 j := fun j => by
    rw [e10, up2_key (by omega), e11, upr_self, etb]
    unfold va_cpy
    rw [Int.toNat_natCast, Int.toNat_natCast]
    by_cases c2 : n ≤ j ∧ j < n + m
    · rw [if_pos c2, if_pos c2]
      congr 1
      show 0 + (j - n) = j - n
      omega
    · rw [if_neg c2, if_neg c2]
  have n10 : I10 999 0 = I1 999 0 := by rw [o10 999 (by omega) (by omega)]
  refine hq I10 b1 ⟨by rw [(s10 k).1]; exact g1, by rw [k10 0 (by decide)]; exact g2, by rw [k10 1 (by decide)]; exact g3, ?_, by omega, by omega, g7, by rw [(s10 b1).1]; exact g8, by rw [(s10 b1).2]; omega, fun j hj => ?_, fun j hj => ?_⟩ ⟨?_, ?_⟩ (by omega)
  · rw [e10, up2_self, o11 k (by omega), g4]
    omega
  · rw [(s10 b1).2] at hj
    rw [B10]
    split
    · exact hby _ (by omega)
    · exact g10 j hj
  · rw [B10]
    unfold ctN
    by_cases c2 : j < n
    · rw [if_neg (by omega), if_pos c2]; exact g11 j c2
    · rw [if_pos ⟨by omega, by omega⟩, if_neg c2]
  · refine x1.trans (W' := fun j => j = k ∨ j = b1) ⟨by omega, fun q _ _ => ⟨fun z => o10 q (fun w => z (Or.inr w)) (fun w => z (Or.inl w)), o10 _ (by omega) (by omega)⟩⟩ (fun _ q => Or.inl q) (fun q _ hq2 z => ?_)
    rcases z with z | z
    · exact Or.inl z
    · rcases c1 with c | c
      · exact Or.inr (by omega)
      · omega
  · rcases c1 with c | c
    · exact Or.inl c
    · exact Or.inr (by omega)
end SBA
