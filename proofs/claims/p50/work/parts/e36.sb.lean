/-! ===== builders of text ===== -/
def SBr (I : Ii) (k b n : Nat) (T : Nat → Int) : Prop := dS I k = 6 ∧ I k 0 = (b : Int) ∧ I k 1 = 0 ∧ I k 3 = (n : Int) ∧ (1022 ≤ k ∧ (k : Int) < I 999 0) ∧ (1022 ≤ b ∧ (b : Int) < I 999 0) ∧ b ≠ k ∧ dS I b = 2 ∧ ((n : Int) ≤ dL I b ∧ dL I b ≤ 1802) ∧ (∀ j : Nat, (j : Int) < dL I b → 0 ≤ I b j ∧ I b j < 128) ∧ ∀ j, j < n → I b j = T j
section SBQ
variable {I : Ii} {J : Jj} {k b n : Nat} {T : Nat → Int}
theorem SB_lat {Q : Int → Ii → Jj → Prop} (h : SBr I k b n T) (hq : Q 1 I J) : wp_J5_isLatin1_aae02 k I J Q := by
  unfold wp_J5_isLatin1_aae02
  rw [h.2.2.1]
  exact ⟨h.1, ⟨by decide, by decide⟩, fun c => absurd rfl c, fun _ => hq⟩
theorem shl0 {x : Int} (h : 0 ≤ x ∧ x < 100000) : shlZ x 0 = x := shlZ_0 h
/-- room for m bytes -/
theorem SB_ens {Q : Ii → Jj → Prop} {m : Int} (h : SBr I k b n T) (hN : I 999 0 ≤ 800000) (hm : (n : Int) ≤ m ∧ m ≤ 900) (hq : ∀ (I' : Ii) (b' : Nat), SBr I' k b' n T → m ≤ dL I' b' → (b' = b ∨ (b' : Int) = I 999 0) → ExW (fun j => j = k) I I' → I' 999 0 ≤ I 999 0 + 1 → Q I' J) : wp_J5_ensureCapacityInternal_d00df k m I J Q := by
  have h' := h
  obtain ⟨h1, h2, h3, h4, h5, h6, h7, h8, h9, h10, h11⟩ := h
  unfold wp_J5_ensureCapacityInternal_d00df
  rw [h2, h3, Int.toNat_natCast, shr0 (by omega)]
  refine ⟨⟨h1, by omega⟩, ⟨h8, by omega⟩, h1, ⟨by omega, by omega⟩, fun c => hq I b h' (by omega) (Or.inl rfl) (ExW.rf I) (by omega), fun c => ⟨⟨h1, by omega⟩, h1, ?_⟩⟩
  unfold wp_J5_newCapacity_0f7a4
  rw [h2, h3, Int.toNat_natCast, shl0 (by omega), shl0 (by omega)]
  refine ⟨⟨h1, by omega⟩, ⟨h8, by omega⟩, h1, h1, ?_⟩
  have go : ∀ w : Int, m ≤ w → w ≤ 1802 → dL I b < w → (rg w ∧ (¬ w = 2147483647 → (dS I k = 6) ∧ (dS I k = 6) ∧ wp_J7_copyOf_9075b b (shlZ (shrZ w (I k 1)) (I k 1)) I J (fun v9 I9 J9 => (dS I9 k = 6) ∧ ∀ I10 : Ii, I10 = up2 I9 k 0 ((v9 : Nat) : Int) → Q I10 J9)) ∧ (w = 2147483647 → False)) := by
    intro w w1 w2 w3
    refine ⟨⟨by omega, by omega⟩, fun _ => ⟨h1, h1, ?_⟩, fun z => by omega⟩
    rw [h3, shr0 (by omega), shl0 (by omega)]
    unfold wp_J7_copyOf_9075b
    refine ⟨⟨h8, by omega⟩, ⟨by omega, by omega⟩, ⟨by omega, by omega⟩, fun _ => ⟨⟨⟨by omega, by omega⟩, by omega⟩, fun I5 e5 v6 e6 => ?_⟩, fun z => by omega⟩
    subst e6
    generalize hK : (I 999 0).toNat = K
    have s5 : dS I5 K = 2 ∧ dL I5 K = w := by rw [e5, ← hK]; exact nwI_s
    have x5 : Ex I I5 := by rw [e5]; exact ExW.nw ⟨by omega, by omega⟩
    have n5 : I5 999 0 = I 999 0 + 1 := by rw [e5]; exact nwI_9 _ _ _ _
    have z5 : ∀ j, I5 K j = 0 := fun j => by rw [e5, ← hK, nwI_k (by omega)]
    have db := ExW.ds x5 (k := b) (by omega) (by omega)
    have dk := ExW.ds x5 (k := k) (by omega) (by omega)
    have ib := (x5.2 b (by omega) (by omega)).1 (fun q => q)
    have ik := (x5.2 k (by omega) (by omega)).1 (fun q => q)
    refine ⟨⟨by rw [db.1]; exact h8, by rw [db.2]; omega⟩, ?_⟩
    rw [db.2]
    refine min_of ⟨by omega, by omega⟩ ⟨by omega, by omega⟩ (fun z => by omega) (fun _ => ⟨⟨⟨⟨⟨by rw [db.1]; exact h8, s5.1⟩, by omega⟩, ⟨⟨by decide, by decide⟩, by omega, by omega⟩, ⟨by rw [db.2]; omega, by rw [s5.2]; omega⟩, fun j hj => ?_⟩, by decide, by decide⟩, fun I9 e9 => ⟨?_, fun I10 e10 => ?_⟩⟩)
    · rw [ib, show ((0 : Int).toNat + j) = j by show 0 + j = j; omega]
      exact h10 j hj
    · rw [e9]
      show upr I5 K _ (1000000 + k) 0 = 6
      rw [upr_ne (by omega)]
      exact dk.1.trans h1
    · have o10 : ∀ q, q ≠ K → q ≠ k → I10 q = I5 q := fun q q1 q2 => by rw [e10, up2_key q2, e9, upr_ne q1]
      have k10 : ∀ i, i ≠ 0 → I10 k i = I k i := fun i hi => by rw [e10, up2_ne (by omega), e9, upr_ne (by omega), ik]
      have K10 : ∀ j : Nat, I10 K j = if (j : Int) < dL I b then I b j else 0 := fun j => by
        rw [e10, up2_key (by omega), e9, upr_self]
        unfold va_cpy
        by_cases c2 : (j : Int) < dL I b
        · rw [if_pos c2, if_pos ⟨by show 0 ≤ j; omega, by show j < 0 + (dL I b).toNat; omega⟩, ib]
          congr 1
          show 0 + (j - 0) = j
          omega
        · rw [if_neg c2, if_neg (fun z => c2 (by have z2 : j < 0 + (dL I b).toNat := z.2; omega)), z5]
      have s10 : ∀ q, dS I10 q = dS I5 q ∧ dL I10 q = dL I5 q := fun q => by
        have := o10 (1000000 + q) (by omega) (by omega)
        exact ⟨congrFun this 0, congrFun this 1⟩
      have n10 : I10 999 0 = I 999 0 + 1 := by rw [o10 999 (by omega) (by omega)]; exact n5
      refine hq I10 K ⟨by rw [(s10 k).1, dk.1]; exact h1, by rw [e10, up2_self], by rw [k10 1 (by decide)]; exact h3, by rw [k10 3 (by decide)]; exact h4, by omega, by omega, by omega, by rw [(s10 K).1]; exact s5.1, by rw [(s10 K).2, s5.2]; omega, fun j hj => ?_, fun j hj => ?_⟩ (by rw [(s10 K).2, s5.2]; omega) (Or.inr (by omega)) ?_ (by omega)
      · rw [K10]
        split
        · rename_i c2; exact h10 j c2
        · omega
      · rw [K10, if_pos (by omega)]
        exact h11 j hj
      · refine ⟨by omega, fun q q9 hq2 => ⟨fun hk => ?_, ?_⟩⟩
        · rw [o10 q (by omega) hk]; exact (x5.2 q q9 hq2).1 (fun z => z)
        · rw [o10 _ (by omega) (by omega)]; exact (x5.2 q q9 hq2).2
  unfold wp_J8_newLength_cabcc
  refine max_of ⟨by omega, by omega⟩ ⟨by omega, by omega⟩ (fun c2 => ?_) (fun c2 => ?_)
  · exact ⟨⟨by omega, by omega⟩, fun z => by omega, fun _ => ⟨fun z => by omega, fun _ => go _ (by omega) (by omega) (by omega)⟩⟩
  · exact ⟨⟨by omega, by omega⟩, fun z => by omega, fun _ => ⟨fun z => by omega, fun _ => go _ (by omega) (by omega) (by omega)⟩⟩
end SBQ
