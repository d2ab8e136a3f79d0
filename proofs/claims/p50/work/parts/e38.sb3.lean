/-! ===== builders of text: a char, an int; made, and read ===== -/
theorem i2b128 : ∀ b : Fin 128, i2bZ (b.val : Int) = (b.val : Int) := by decide +kernel
theorem i2b_ok {x : Int} (h : 0 ≤ x ∧ x < 128) : i2bZ x = x := by
  have e : (((⟨x.toNat, by omega⟩ : Fin 128).val : Nat) : Int) = x := by show ((x.toNat : Nat) : Int) = x; omega
  have := i2b128 ⟨x.toNat, by omega⟩
  rw [e] at this
  exact this
theorem LTP.ex {W : Nat → Prop} {I I' : Ii} (h : LTP I) (hx : ExW W I I') (hN : 1022 ≤ I 999 0) (hw : ∀ k, 900 ≤ k → k < 934 → ¬ W k) : LTP I' := by
  intro k k1 k2
  have e1 := (hx.2 k (by omega) (by omega)).1 (hw k k1 k2)
  have e2 := (hx.2 k (by omega) (by omega)).2
  rw [e1, e2]
  exact h k k1 k2
theorem LTP.d {I : Ii} (h : LTP I) {k : Nat} (hk : k = 932 ∨ k = 933) : dS I k = 2 ∧ dL I k = 100 ∧ ∀ j : Nat, j < 100 → I k j = lval k j := by
  obtain ⟨a1, a2, a3, a4⟩ := h k (by omega) (by omega)
  have l : llen k = 100 := by rcases hk with rfl | rfl <;> rfl
  have s : lsort k = 2 := by rcases hk with rfl | rfl <;> rfl
  exact ⟨by rw [← s]; exact a1, by rw [← l]; exact a2, fun j hj => a4 j (by omega)⟩
section SBB
variable {I : Ii} {J : Jj} {k b n : Nat} {T : Nat → Int}
/-- one byte more, behind the room -/
theorem SB_chr {Q : Nat → Ii → Jj → Prop} {c : Int} (h : SBr I k b n T) (hN : I 999 0 ≤ 800000) (hc : 0 ≤ c ∧ c < 128) (hm : n + 1 ≤ 900)
    (hq : ∀ (I' : Ii) (b' : Nat), SBr I' k b' (n + 1) (ctN T n (fun _ => c)) → SBX I k b I' b' → I' 999 0 ≤ I 999 0 + 1 → Q k I' J) : wp_J4_append_cf468 k c I J Q := by
  unfold wp_J4_append_cf468 wp_J5_append_3fe6f
  refine ⟨h.1, h.1, h.1, ?_⟩
  rw [h.2.2.2.1]
  refine SB_ens h hN (m := (n : Int) + 1) ⟨by omega, by omega⟩ (fun I1 b1 h1 l1 c1 x1 n1 => ?_)
  have h1' := h1
  obtain ⟨g1, g2, g3, g4, g5, g6, g7, g8, g9, g10, g11⟩ := h1
  refine ⟨g1, SB_lat h1' ⟨fun z => absurd z (by decide), fun _ => ?_⟩⟩
  unfold wp_J1_canEncode_fc78d
  refine ⟨⟨by omega, by omega⟩, fun z => by omega, fun _ => ⟨fun z => absurd z (by decide), fun _ => ?_⟩⟩
  rw [g2, g4, Int.toNat_natCast, Int.toNat_natCast, i2b_ok hc]
  refine ⟨⟨g1, by omega⟩, g1, g1, fun I9 e9 => ⟨⟨⟨⟨by rw [e9, up2_dS (by omega)]; exact g8, by omega⟩, ⟨by omega, by rw [e9, up2_dL (by omega)]; omega⟩, by omega, by omega⟩, by omega⟩, fun I12 e12 => ?_⟩⟩
  have o12 : ∀ q, q ≠ b1 → q ≠ k → I12 q = I1 q := fun q q1 q2 => by rw [e12, up2_key q1, e9, up2_key q2]
  have s12 : ∀ q, dS I12 q = dS I1 q ∧ dL I12 q = dL I1 q := fun q => by
    have := o12 (1000000 + q) (by omega) (by omega)
    exact ⟨congrFun this 0, congrFun this 1⟩
  have k12 : ∀ i, i ≠ 3 → I12 k i = I1 k i := fun i hi => by rw [e12, up2_key (by omega), e9, up2_ne (by omega)]
  have B12 : ∀ j : Nat, I12 b1 j = if j = n then c else I1 b1 j := fun j => by
    rw [e12]
    by_cases c2 : j = n
    · rw [if_pos c2, c2, up2_self]
    · rw [if_neg c2, up2_ne (fun z => c2 z.2), e9, up2_key (by omega)]
  have n12 : I12 999 0 = I1 999 0 := by rw [o12 999 (by omega) (by omega)]
  refine hq I12 b1 ⟨by rw [(s12 k).1]; exact g1, by rw [k12 0 (by decide)]; exact g2, by rw [k12 1 (by decide)]; exact g3, ?_, by omega, by omega, g7, by rw [(s12 b1).1]; exact g8, by rw [(s12 b1).2]; omega, fun j hj => ?_, fun j hj => ?_⟩ ⟨?_, ?_⟩ (by omega)
  · rw [e12, up2_key (by omega), e9, up2_self]
    omega
  · rw [(s12 b1).2] at hj
    rw [B12]
    split
    · exact hc
    · exact g10 j hj
  · rw [B12]
    unfold ctN
    by_cases c2 : j < n
    · rw [if_neg (by omega), if_pos c2]; exact g11 j c2
    · rw [if_pos (by omega), if_neg c2]
  · refine x1.trans (W' := fun j => j = k ∨ j = b1) ⟨by omega, fun q _ _ => ⟨fun z => o12 q (fun w => z (Or.inr w)) (fun w => z (Or.inl w)), o12 _ (by omega) (by omega)⟩⟩ (fun _ q => Or.inl q) (fun q _ hq2 z => ?_)
    rcases z with z | z
    · exact Or.inl z
    · rcases c1 with c | c
      · exact Or.inr (by omega)
      · omega
  · rcases c1 with c | c
    · exact Or.inl c
    · exact Or.inr (by omega)
/-- the digits of a small number -/
def digN (x : Int) : Nat → Int := fun j => if x < 10 then 48 + x else (if j = 0 then 48 + x / 10 else 48 + x % 10)
def digL (x : Int) : Nat := if x < 10 then 1 else 2
theorem SB_int {Q : Nat → Ii → Jj → Prop} {x : Int} (h : SBr I k b n T) (hl : LTP I) (hN : I 999 0 ≤ 800000) (hx : 0 ≤ x ∧ x < 100) (hm : n + 2 ≤ 900)
    (hq : ∀ (I' : Ii) (b' : Nat), SBr I' k b' (n + digL x) (ctN T n (digN x)) → SBX I k b I' b' → I' 999 0 ≤ I 999 0 + 1 → Q k I' J) : wp_J4_append_bf812 k x I J Q := by
  unfold wp_J4_append_bf812 wp_J5_append_c97b9
  refine ⟨h.1, h.1, ?_⟩
  have size : ∀ P : Int → Ii → Jj → Prop, P ((digL x : Nat) : Int) I J → wp_J6_stringSize_0f7a4 x I J P := fun P hP => by
    unfold wp_J6_stringSize_0f7a4
    refine ⟨⟨by omega, by omega⟩, fun z => by omega, fun _ => ⟨2, ?_⟩⟩
    show Lb_J6_stringSize_0f7a4_16 P _ (-x) 0 (-10) 1 I J
    unfold Lb_J6_stringSize_0f7a4_16
    refine ⟨⟨by decide, by decide⟩, fun z => absurd z (by decide), fun _ => ⟨⟨by omega, by omega⟩, ⟨by decide, by decide⟩, fun z => ?_, fun z => ?_⟩⟩
    · show Lb_J6_stringSize_0f7a4_16 P _ (-x) 0 ((10 : Int) * (-10)) (1 + 1) I J
      unfold Lb_J6_stringSize_0f7a4_16
      refine ⟨⟨by decide, by decide⟩, fun z => absurd z (by decide), fun _ => ⟨⟨by omega, by omega⟩, ⟨by decide, by decide⟩, fun z2 => by omega, fun z2 => ?_⟩⟩
      unfold digL at hP
      rw [if_neg (by omega)] at hP
      exact hP
    · unfold digL at hP
      rw [if_pos (by omega)] at hP
      exact hP
  refine size _ ⟨h.1, ?_⟩
  have bd : digL x = 1 ∧ x < 10 ∨ digL x = 2 ∧ ¬ x < 10 := by
    unfold digL
    by_cases c : x < 10
    · rw [if_pos c]; exact Or.inl ⟨rfl, c⟩
    · rw [if_neg c]; exact Or.inr ⟨rfl, c⟩
  rw [h.2.2.2.1]
  refine SB_ens h hN (m := (n : Int) + ((digL x : Nat) : Int)) ⟨by omega, by omega⟩ (fun I1 b1 h1 l1 c1 x1 n1 => ?_)
  have hk22 := h.2.2.2.2.1
  have hb22 := h.2.2.2.2.2.1
  have hl1 : LTP I1 := hl.ex x1 (by omega) (fun q q1 q2 z => by omega)
  have h1' := h1
  obtain ⟨g1, g2, g3, g4, g5, g6, g7, g8, g9, g10, g11⟩ := h1
  refine ⟨g1, SB_lat h1' ⟨fun z => absurd z (by decide), fun _ => ⟨⟨g1, by omega⟩, ?_⟩⟩⟩
  rw [g2, Int.toNat_natCast]
  have b1n : b1 ≠ 933 ∧ b1 ≠ 932 := by omega
  obtain ⟨u1, u2, u3⟩ := hl1.d (k := 933) (Or.inr rfl)
  obtain ⟨t1, t2, t3⟩ := hl1.d (k := 932) (Or.inl rfl)
  have v3 : I1 933 x.toNat = 48 + x % 10 := by
    rw [u3 x.toNat (by omega)]
    show (48 : Int) + ((x.toNat : Nat) : Int) % 10 = _
    omega
  have v2 : I1 932 x.toNat = 48 + x / 10 := by
    rw [t3 x.toNat (by omega)]
    show (48 : Int) + ((x.toNat : Nat) : Int) / 10 = _
    omega
  -- behind the digits
  have fin : ∀ I9 : Ii, (∀ q, q ≠ b1 → I9 q = I1 q) → (∀ j, I9 b1 j = if n ≤ j ∧ j < n + digL x then digN x (j - n) else I1 b1 j) → (dS I9 k = 6) ∧ ∀ I10 : Ii, I10 = up2 I9 k 3 ((n : Int) + ((digL x : Nat) : Int)) → Q k I10 J := by
    intro I9 o9 B9
    have sk : dS I9 k = 6 := by
      show I9 (1000000 + k) 0 = 6
      rw [o9 _ (by omega)]; exact g1
    refine ⟨sk, fun I10 e10 => ?_⟩
    have o10 : ∀ q, q ≠ b1 → q ≠ k → I10 q = I1 q := fun q q1 q2 => by rw [e10, up2_key q2]; exact o9 q q1
    have s10 : ∀ q, dS I10 q = dS I1 q ∧ dL I10 q = dL I1 q := fun q => by
      have := o10 (1000000 + q) (by omega) (by omega)
      exact ⟨congrFun this 0, congrFun this 1⟩
    have k10 : ∀ i, i ≠ 3 → I10 k i = I1 k i := fun i hi => by rw [e10, up2_ne (by omega), o9 k (by omega)]
    have B10 : ∀ j : Nat, I10 b1 j = if n ≤ j ∧ j < n + digL x then digN x (j - n) else I1 b1 j := fun j => by
      rw [e10, up2_key (by omega)]; exact B9 j
    have n10 : I10 999 0 = I1 999 0 := by rw [o10 999 (by omega) (by omega)]
    have dig : ∀ j, 0 ≤ digN x j ∧ digN x j < 128 := fun j => by
      unfold digN
      split
      · omega
      · split <;> omega
    refine hq I10 b1 ⟨by rw [(s10 k).1]; exact g1, by rw [k10 0 (by decide)]; exact g2, by rw [k10 1 (by decide)]; exact g3, ?_, by omega, by omega, g7, by rw [(s10 b1).1]; exact g8, by rw [(s10 b1).2]; omega, fun j hj => ?_, fun j hj => ?_⟩ ⟨?_, ?_⟩ (by omega)
    · rw [e10, up2_self]
      omega
    · rw [(s10 b1).2] at hj
      rw [B10]
      split
      · exact dig _
      · exact g10 j hj
    · rw [B10]
      unfold ctN
      by_cases c2 : j < n
      · rw [if_neg (by omega), if_pos c2]; exact g11 j c2
      · rw [if_pos ⟨by omega, by omega⟩, if_neg c2]
    · refine x1.trans (W' := fun j => j = k ∨ j = b1) ⟨by omega, fun q _ _ => ⟨fun z => o10 q (fun w => z (Or.inr w)) (fun w => z (Or.inl w)), o10 _ (by omega) (by omega)⟩⟩ (fun _ q => Or.inl q) (fun q _ hq2 z => ?_)
      rcases z with z | z
      · exact Or.inl z
      · rcases c1 with c | c
        · exact Or.inr (by omega)
        · omega
    · rcases c1 with c | c
      · exact Or.inl c
      · exact Or.inr (by omega)
  unfold wp_J6_getChars_ba4f3
  refine ⟨⟨by omega, by omega⟩, fun _ => ?_, fun z => by omega⟩
  unfold B_J6_getChars_ba4f3_12
  refine ⟨⟨by decide, by decide⟩, fun z => absurd rfl z, fun _ => ⟨1, ?_⟩⟩
  show Lb_J6_getChars_ba4f3_22 b1 _ _ _ (-x) ((n : Int) + ((digL x : Nat) : Int)) 0 I1 J
  unfold Lb_J6_getChars_ba4f3_22
  rw [show - -x = x by omega, v3]
  refine ⟨⟨by omega, by omega⟩, fun _ => ⟨⟨⟨u1, by omega, by omega⟩, by omega⟩, ⟨⟨⟨g8, by omega⟩, ⟨by omega, by omega⟩, by omega, by omega⟩, by omega⟩, fun I6 e6 => ⟨⟨by omega, by omega⟩, fun z => ?_, fun z => ?_⟩⟩, fun z => by omega⟩
  · unfold B_J6_getChars_ba4f3_104
    have hd : digL x = 1 := by omega
    refine ⟨⟨by decide, by decide⟩, fun _ => fin I6 (fun q hq2 => by rw [e6, up2_key hq2]) (fun j => ?_), fun z2 => absurd rfl z2⟩
    rw [e6]
    by_cases c2 : n ≤ j ∧ j < n + digL x
    · have ej : j = n := by omega
      rw [if_pos c2, ej, show (((n : Int) + ((digL x : Nat) : Int) + -1) : Int).toNat = n by omega, up2_self]
      unfold digN
      rw [if_pos (by omega)]
      omega
    · rw [if_neg c2, up2_ne (fun z3 => c2 (by have := z3.2; omega))]
  · have hd : digL x = 2 := by omega
    have i2 : I6 932 = I1 932 := by rw [e6, up2_key (by omega)]
    have d6 : ∀ q, dS I6 q = dS I1 q ∧ dL I6 q = dL I1 q := fun q => by rw [e6, up2_dS (by omega), up2_dL (by omega)]; exact ⟨rfl, rfl⟩
    rw [i2, v2, (d6 932).1, (d6 932).2, (d6 b1).1, (d6 b1).2]
    refine ⟨⟨⟨t1, by omega, by omega⟩, by omega⟩, ⟨⟨⟨g8, by omega⟩, ⟨by omega, by omega⟩, by omega, by omega⟩, by omega⟩, fun I10 e10 => ?_⟩
    unfold B_J6_getChars_ba4f3_104
    refine ⟨⟨by decide, by decide⟩, fun _ => fin I10 (fun q hq2 => by rw [e10, up2_key hq2, e6, up2_key hq2]) (fun j => ?_), fun z2 => absurd rfl z2⟩
    rw [e10]
    by_cases c2 : n ≤ j ∧ j < n + digL x
    · rw [if_pos c2]
      unfold digN
      rw [if_neg (by omega)]
      by_cases c3 : j = n
      · rw [c3, show (((n : Int) + ((digL x : Nat) : Int) + -1) + -1 : Int).toNat = n by omega, up2_self, if_pos (by omega)]
      · rw [up2_ne (fun z3 => by have := z3.2; omega), e6, show (((n : Int) + ((digL x : Nat) : Int) + -1) : Int).toNat = j by omega, up2_self, if_neg (by omega)]
    · rw [if_neg c2, up2_ne (fun z3 => c2 (by have := z3.2; omega)), e6, up2_ne (fun z3 => c2 (by have := z3.2; omega))]
end SBB
