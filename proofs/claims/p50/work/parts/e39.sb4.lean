/-! ===== builders made and read; the names ===== -/
section SBD
variable {I : Ii} {J : Jj} {k b n : Nat} {T : Nat → Int}
theorem SB_mk {Q : Nat → Ii → Jj → Prop} (hN : 1022 ≤ I 999 0 ∧ I 999 0 ≤ 800000) (hq : ∀ I' : Ii, SBr I' (I 999 0).toNat ((I 999 0).toNat + 1) 0 T → Ex I I' → I' 999 0 = I 999 0 + 2 → Q (I 999 0).toNat I' J) : (I 999 0 < 900000) ∧ ∀ I2 : Ii, I2 = nwI I 6 0 (fun i => if i = 0 then -1 else 0) → ∀ v3 : Nat, v3 = (I 999 0).toNat → wp_J4_init_da8c8 v3 I2 J (Q v3) := by
  refine ⟨by omega, fun I2 e2 v3 e3 => ?_⟩
  subst e3
  have x2 : Ex I I2 := by rw [e2]; exact ExW.nw ⟨by omega, by omega⟩
  have n2 : I2 999 0 = I 999 0 + 1 := by rw [e2]; exact nwI_9 _ _ _ _
  have s2 : dS I2 (I 999 0).toNat = 6 := by rw [e2]; exact nwI_s0
  have d2 : I2 (I 999 0).toNat 3 = 0 := by rw [e2, nwI_k (by omega)]; rfl
  clear e2
  generalize hK : (I 999 0).toNat = K at *
  unfold wp_J4_init_da8c8 wp_J5_init_d00df
  refine ⟨⟨⟨by decide, by decide⟩, by omega⟩, fun I3 e3 v e4 => ?_⟩
  subst e4
  have x3 : Ex I2 I3 := by rw [e3]; exact ExW.nw ⟨by omega, by omega⟩
  have n3 : I3 999 0 = I2 999 0 + 1 := by rw [e3]; exact nwI_9 _ _ _ _
  have s3 : dS I3 (I2 999 0).toNat = 2 ∧ dL I3 (I2 999 0).toNat = 16 := by rw [e3]; exact nwI_s
  have z3 : ∀ j, I3 (I2 999 0).toNat j = 0 := fun j => by rw [e3, nwI_k (by omega)]
  clear e3
  have hK1 : (I2 999 0).toNat = K + 1 := by omega
  rw [hK1] at s3 z3 ⊢
  have k3 := x3.2 K (by omega) (by omega)
  have sk3 : dS I3 K = 6 := (congrFun k3.2 0).trans s2
  refine ⟨sk3, fun I4 e4 => ⟨⟨by rw [e4, up2_dS (by omega)]; exact sk3, by decide, by decide⟩, fun I6 e6 => ?_⟩⟩
  have o6 : ∀ q, q ≠ K → I6 q = I3 q := fun q hq2 => by rw [e6, up2_key hq2, e4, up2_key hq2]
  have s6 : ∀ q, dS I6 q = dS I3 q ∧ dL I6 q = dL I3 q := fun q => by
    have := o6 (1000000 + q) (by omega)
    exact ⟨congrFun this 0, congrFun this 1⟩
  have n6 : I6 999 0 = I 999 0 + 2 := by rw [o6 999 (by omega)]; omega
  refine hq I6 ⟨by rw [(s6 K).1]; exact sk3, by rw [e6, up2_ne (by omega), e4, up2_self], by rw [e6, up2_self], ?_, by omega, by omega, by omega, by rw [(s6 _).1]; exact s3.1, by rw [(s6 _).2, s3.2]; exact ⟨by decide, by decide⟩, fun j _ => ?_, fun j hj => absurd hj (Nat.not_lt_zero _)⟩ ⟨by omega, fun q h9 hq2 => ⟨fun _ => ?_, ?_⟩⟩ n6
  · rw [e6, up2_ne (by omega), e4, up2_ne (by omega), k3.1 (fun q => q), d2]; rfl
  · rw [o6 (K + 1) (by omega), z3]; exact ⟨by decide, by decide⟩
  · rw [o6 q (by omega), (x3.2 q h9 (by omega)).1 (fun q => q), (x2.2 q h9 hq2).1 (fun q => q)]
  · rw [o6 _ (by omega), (x3.2 q h9 (by omega)).2, (x2.2 q h9 hq2).2]
/-- a builder's text -/
theorem SB_str {Q : Nat → Ii → Jj → Prop} (h : SBr I k b n T) (hN : 1022 ≤ I 999 0 ∧ I 999 0 ≤ 800000) (hn : n ≤ 900) (hq : ∀ I' : Ii, TXr I' (I 999 0).toNat ((I 999 0).toNat + 1) n → (∀ j, j < n → I' ((I 999 0).toNat + 1) j = T j) → Ex I I' → I' 999 0 = I 999 0 + 2 → Q (I 999 0).toNat I' J) : wp_J4_toString_0e30d k I J Q := by
  obtain ⟨g1, g2, g3, g4, g5, g6, g7, g8, g9, g10, g11⟩ := h
  unfold wp_J4_toString_0e30d
  refine ⟨by omega, fun I2 e2 v3 e3 => ?_⟩
  subst e3
  have x2 : Ex I I2 := by rw [e2]; exact ExW.nw ⟨by omega, by omega⟩
  have n2 : I2 999 0 = I 999 0 + 1 := by rw [e2]; exact nwI_9 _ _ _ _
  have s2 : dS I2 (I 999 0).toNat = 5 := by rw [e2]; exact nwI_s0
  clear e2
  generalize hK : (I 999 0).toNat = K at *
  have kk := x2.2 k (by omega) (by omega)
  have kb := x2.2 b (by omega) (by omega)
  have tk : dS I2 k = 6 := (congrFun kk.2 0).trans g1
  have tb : dS I2 b = 2 := (congrFun kb.2 0).trans g8
  have lb : dL I2 b = dL I b := congrFun kb.2 1
  have ik : ∀ i, I2 k i = I k i := fun i => congrFun (kk.1 (fun q => q)) i
  have ib : ∀ i, I2 b i = I b i := fun i => congrFun (kb.1 (fun q => q)) i
  unfold wp_J0_init_81219 wp_J0_init_db425 wp_J5_getValue_6d5f1 wp_J4_length_8abf5 wp_J5_length_8abf5 wp_J5_isLatin1_aae02
  dsimp only
  rw [ik 0, ik 1, ik 3, g2, g3, g4, Int.toNat_natCast]
  refine ⟨tk, ⟨tk, by omega⟩, tk, tk, tk, tk, tk, ⟨by decide, by decide⟩, fun z => absurd rfl z, fun _ => ⟨fun z => absurd z (by decide), fun _ => ⟨⟨⟨s2, by omega⟩, by decide, by decide⟩, fun I9 e9 => ?_⟩⟩⟩
  have o9 : ∀ q, q ≠ K → I9 q = I2 q := fun q hq2 => by rw [e9, up2_key hq2]
  have s9 : ∀ q, dS I9 q = dS I2 q ∧ dL I9 q = dL I2 q := fun q => by
    have := o9 (1000000 + q) (by omega)
    exact ⟨congrFun this 0, congrFun this 1⟩
  have n9 : I9 999 0 = I 999 0 + 1 := by rw [o9 999 (by omega)]; omega
  have b9 : ∀ i, I9 b i = I b i := fun i => by rw [o9 b (by omega)]; exact ib i
  have k19 : I9 K 1 = 0 := by rw [e9, up2_self]
  -- behind the new bytes
  have fin : ∀ (v : Nat) (I' : Ii), v = K + 1 → Ex I9 I' → I' 999 0 = I9 999 0 + 1 → dS I' (K + 1) = 2 → dL I' (K + 1) = (n : Int) → (∀ j, j < n → I' (K + 1) j = T j) → (dS I' K = 5 ∧ 1022 ≤ K) ∧ ∀ I12 : Ii, I12 = up2 I' K 0 ((v : Nat) : Int) → Q K I12 J := by
    intro v I' ev xx n' c1 c2 c3
    subst ev
    have kK := xx.2 K (by omega) (by omega)
    have sK : dS I' K = 5 := by
      refine (congrFun kK.2 0).trans ?_
      exact (s9 K).1.trans s2
    refine ⟨⟨sK, by omega⟩, fun I12 e12 => ?_⟩
    have o12 : ∀ q, q ≠ K → I12 q = I' q := fun q hq2 => by rw [e12, up2_key hq2]
    have s12 : ∀ q, dS I12 q = dS I' q ∧ dL I12 q = dL I' q := fun q => by
      have := o12 (1000000 + q) (by omega)
      exact ⟨congrFun this 0, congrFun this 1⟩
    have n12 : I12 999 0 = I 999 0 + 2 := by rw [o12 999 (by omega)]; omega
    refine hq I12 ⟨by rw [(s12 K).1]; exact sK, by rw [e12, up2_self], ?_, by rw [(s12 _).1]; exact c1, by rw [(s12 _).2]; exact c2, by omega⟩ (fun j hj => by rw [o12 (K + 1) (by omega)]; exact c3 j hj) ⟨by omega, fun q h9 hq2 => ⟨fun _ => ?_, ?_⟩⟩ n12
    · rw [e12, up2_ne (by omega), kK.1 (fun q => q)]; exact k19
    · rw [o12 q (by omega), (xx.2 q h9 (by omega)).1 (fun q => q), o9 q (by omega), (x2.2 q h9 hq2).1 (fun q => q)]
    · rw [o12 _ (by omega), (xx.2 q h9 (by omega)).2, o9 _ (by omega), (x2.2 q h9 hq2).2]
  have hK1 : (I9 999 0).toNat = K + 1 := by omega
  unfold wp_J7_copyOfRange_39247
  rw [(s9 b).1, (s9 b).2, lb]
  refine ⟨⟨by decide, by decide⟩, fun z => absurd rfl z, fun _ => ⟨⟨tb, by omega⟩, ⟨by omega, by omega⟩, ⟨by omega, by omega⟩, fun c => ?_, fun c => ?_⟩⟩
  · refine ⟨⟨⟨tb, by omega⟩, ⟨by show dL I b ≤ 2000; omega, by omega⟩, fun j hj => by rw [b9]; exact g10 j hj⟩, fun I6 e6 v7 e7 => ?_⟩
    have x6 : Ex I9 I6 := by rw [e6]; exact ExW.nw ⟨by omega, by omega⟩
    have n6 : I6 999 0 = I9 999 0 + 1 := by rw [e6]; exact nwI_9 _ _ _ _
    have s6 : dS I6 (I9 999 0).toNat = 2 ∧ dL I6 (I9 999 0).toNat = dL I b := by rw [e6]; exact nwI_s
    have z6 : I6 (I9 999 0).toNat = I9 b := by rw [e6]; exact nwI_k (by omega)
    rw [hK1] at s6 z6 e7
    refine ⟨⟨by rw [e7]; exact s6.1, by omega⟩, fin v7 I6 e7 x6 n6 s6.1 (by rw [s6.2]; exact c.symm) (fun j hj => by rw [z6, b9]; exact g11 j hj)⟩
  · unfold B_J7_copyOfRange_39247_10 wp_J7_copyOfRangeByte_39247 wp_J7_checkLength_df160
    refine ⟨⟨by omega, by omega⟩, ⟨by decide, by decide⟩, fun _ => ⟨⟨⟨by omega, by show (n : Int) - 0 ≤ 2000; omega⟩, by omega⟩, fun I3 e3 v4 e4 => ?_⟩, fun z => by omega⟩
    have x3 : Ex I9 I3 := by rw [e3]; exact ExW.nw ⟨by omega, by omega⟩
    have n3 : I3 999 0 = I9 999 0 + 1 := by rw [e3]; exact nwI_9 _ _ _ _
    have s3 : dS I3 (I9 999 0).toNat = 2 ∧ dL I3 (I9 999 0).toNat = (n : Int) - 0 := by rw [e3]; exact nwI_s
    have z3 : ∀ j, I3 (I9 999 0).toNat j = 0 := fun j => by rw [e3, nwI_k (by omega)]
    clear e3
    rw [hK1] at s3 z3 e4
    subst e4
    have t3 := x3.2 b (by omega) (by omega)
    have u3 : dS I3 b = 2 := (congrFun t3.2 0).trans ((s9 b).1.trans tb)
    have l3 : dL I3 b = dL I b := (congrFun t3.2 1).trans ((s9 b).2.trans lb)
    have r3 : ∀ i, I3 b i = I b i := fun i => (congrFun (t3.1 (fun q => q)) i).trans (b9 i)
    rw [l3]
    refine ⟨⟨u3, by omega⟩, min_of ⟨by omega, by omega⟩ ⟨by omega, by omega⟩ (fun _ => ⟨⟨⟨⟨⟨u3, s3.1⟩, by omega⟩, ⟨⟨by decide, by decide⟩, by omega, by omega⟩, ⟨by rw [l3]; omega, by rw [s3.2]; omega⟩, fun j hj => ?_⟩, by decide, by decide⟩, fun I7 e7 => ?_⟩) (fun z => by omega)⟩
    · rw [r3, show ((0 : Int).toNat + j) = j by show 0 + j = j; omega]
      exact g10 j (by omega)
    · have o7 : ∀ q, q ≠ K + 1 → I7 q = I3 q := fun q hq2 => by rw [e7, upr_ne hq2]
      have s7 : ∀ q, dS I7 q = dS I3 q ∧ dL I7 q = dL I3 q := fun q => by
        have := o7 (1000000 + q) (by omega)
        exact ⟨congrFun this 0, congrFun this 1⟩
      refine fin (K + 1) I7 rfl ⟨?_, fun q h9 hq2 => ⟨fun _ => ?_, ?_⟩⟩ ?_ (by rw [(s7 _).1]; exact s3.1) (by rw [(s7 _).2, s3.2]; omega) (fun j hj => ?_)
      · rw [o7 999 (by omega)]; exact x3.1
      · rw [o7 q (by omega)]; exact (x3.2 q h9 hq2).1 (fun q => q)
      · rw [o7 _ (by omega)]; exact (x3.2 q h9 hq2).2
      · rw [o7 999 (by omega)]; exact n3
      · rw [e7, upr_self]
        unfold va_cpy
        rw [if_pos ⟨by show 0 ≤ j; omega, by show j < 0 + ((n : Int) - 0).toNat; omega⟩, r3]
        rw [show ((0 : Int).toNat + (j - (0 : Int).toNat)) = j by show 0 + (j - 0) = j; omega]
        exact g11 j hj
end SBD
theorem i2c_sm {x : Int} (h : 0 ≤ x ∧ x < 128) : i2cZ x = x := by
  have c : ∀ b : Fin 128, i2cZ (b.val : Int) = (b.val : Int) := by decide +kernel
  have e : (((⟨x.toNat, by omega⟩ : Fin 128).val : Nat) : Int) = x := by show ((x.toNat : Nat) : Int) = x; omega
  have := c ⟨x.toNat, by omega⟩
  rw [e] at this
  exact this
section SBN
variable {I : Ii} {J : Jj}
theorem w_name {Q : Nat → Ii → Jj → Prop} {v : Nat} (hl : LTP I) (hN : 1022 ≤ I 999 0 ∧ I 999 0 ≤ 790000) (hv : v < 14) (hq : ∀ (I' : Ii) (t : Nat), TXr I' t (t + 1) 2 → I' (t + 1) 0 = 118 → I' (t + 1) 1 = 97 + (v : Int) → I 999 0 ≤ (t : Int) → (t : Int) + 1 < I' 999 0 → Ex I I' → I' 999 0 ≤ I 999 0 + 8 → Q t I' J) : wp_X12_name (v : Int) I J Q := by
  unfold wp_X12_name
  have hK : (((I 999 0).toNat : Nat) : Int) = I 999 0 := by omega
  refine SB_mk (T := fun _ => 0) (Q := fun v3 I4 J4 => (dS I4 v3 = 6) ∧ wp_J4_append_15ec4 v3 916 I4 J4 (fun v5 I5 J5 => (dS I5 v5 = 6) ∧ wp_J4_append_cf468 v5 (i2cZ ((97 : Int) + (v : Int))) I5 J5 (fun v7 I7 J7 => (dS I7 v7 = 6) ∧ wp_J4_toString_0e30d v7 I7 J7 (fun v9 I9 J9 => Q v9 I9 J9)))) ⟨by omega, by omega⟩ (fun I4 h4 x4 n4 => ?_)
  generalize hKe : (I 999 0).toNat = K at *
  have l4 : LTP I4 := hl.ex x4 (by omega) (fun _ _ _ q => q)
  have t4 : TXr I4 916 917 1 := TXr.lit l4 (i := 8) (w := [118]) rfl (by decide)
  have y4 : I4 917 0 = 118 := (l4 917 (by omega) (by omega)).2.2.2 0 (by decide)
  refine ⟨h4.1, SB_app h4 (by omega) t4 (by omega) (fun j hj => ?_) ⟨by omega, by omega⟩ ⟨by omega, by omega⟩ ⟨by omega, by omega, by omega, by omega⟩ (fun I5 b5 h5 x5 n5 => ?_)⟩
  · have : j = 0 := by omega
    subst this
    rw [y4]; exact ⟨by decide, by decide⟩
  rw [i2c_sm (by omega)]
  refine ⟨h5.1, SB_chr h5 (by omega) ⟨by omega, by omega⟩ (by omega) (fun I7 b7 h7 x7 n7 => ?_)⟩
  have m5 := x5.1.1
  have m7 := x7.1.1
  refine ⟨h7.1, SB_str h7 ⟨by omega, by omega⟩ (by omega) (fun I9 h9 y9 x9 n9 => ?_)⟩
  have z0 : I9 ((I7 999 0).toNat + 1) 0 = 118 := by
    rw [y9 0 (by omega)]
    show ctN (ctN (fun _ => 0) 0 (I4 917)) (0 + 1) (fun _ => 97 + (v : Int)) 0 = 118
    exact y4
  have z1 : I9 ((I7 999 0).toNat + 1) 1 = 97 + (v : Int) := by rw [y9 1 (by omega)]; rfl
  have xs := x5.trans x7
  refine hq I9 _ h9 z0 z1 (by omega) (by omega) (((x4.trans xs.1 (W2 := fun _ => False) (fun _ q => q) (fun q h1 h2 z => ?_)).trans x9 (fun _ q => q) (fun _ _ _ q => q))) (by omega)
  rcases z with z | z <;> omega
end SBN
