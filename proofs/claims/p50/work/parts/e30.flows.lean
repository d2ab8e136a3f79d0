/-! ===== flows ===== -/
theorem outZ_cpl {σ : Nat → Int} (hV : VS σ) (S : Nat) : outZ σ (difN (2 ^ (σ 0).toNat - 1) S) = outZ σ S := by
  unfold outZ
  refine sm_cong (fun e he => ?_)
  have ha := hV.a he
  have hb := hV.b he
  rw [difN_bit, difN_bit, Nat.testBit_two_pow_sub_one, Nat.testBit_two_pow_sub_one]
  rw [show decide ((σ (110 + e)).toNat < (σ 0).toNat) = true from decide_eq_true (by omega), show decide ((σ (150 + e)).toNat < (σ 0).toNat) = true from decide_eq_true (by omega), Bool.true_and, Bool.true_and]
  rcases Bool.eq_false_or_eq_true (S.testBit (σ (110 + e)).toNat) with h1 | h1 <;> rcases Bool.eq_false_or_eq_true (S.testBit (σ (150 + e)).toNat) with h2 | h2 <;> simp [h1, h2]
theorem cpl_bit {n S i : Nat} (hi : i < n) : (difN (2 ^ n - 1) S).testBit i = !S.testBit i := by
  rw [difN_bit, Nat.testBit_two_pow_sub_one]
  simp [hi]
theorem cpl_lt (n S : Nat) : difN (2 ^ n - 1) S < 2 ^ n := difN_lt (by have := Nat.two_pow_pos n; omega)
theorem lk_out {σ : Nat → Int} (hV : VS σ) (S : Nat) : lkZ σ S (difN (2 ^ (σ 0).toNat - 1) S) = outZ σ S := by
  rw [lk_eq hV]
  unfold outZ
  refine sm_cong (fun e he => ?_)
  have ha := hV.a he
  have hb := hV.b he
  unfold lkE
  rw [cpl_bit (by omega), cpl_bit (by omega)]
  rcases Bool.eq_false_or_eq_true (S.testBit (σ (110 + e)).toNat) with h1 | h1 <;> rcases Bool.eq_false_or_eq_true (S.testBit (σ (150 + e)).toNat) with h2 | h2 <;> simp [h1, h2]
theorem edgeZ_is {σ : Nat → Int} {a b : Int} : ∀ {n : Nat}, edgeZ σ a b n ≠ -1 → ∃ e : Nat, e < n ∧ edgeZ σ a b n = (e : Int) ∧ ((σ (110 + e) = a ∧ σ (150 + e) = b) ∨ (σ (110 + e) = b ∧ σ (150 + e) = a))
  | 0, h => absurd rfl h
  | n + 1, h => by
    unfold edgeZ at h ⊢
    by_cases c : (σ (110 + n) = a ∧ σ (150 + n) = b) ∨ (σ (110 + n) = b ∧ σ (150 + n) = a)
    · rw [if_pos c]
      exact ⟨n, by omega, rfl, c⟩
    · rw [if_neg c] at h ⊢
      obtain ⟨e, h1, h2, h3⟩ := edgeZ_is h
      exact ⟨e, by omega, h2, h3⟩
theorem FLW_sym {σ : Nat → Int} (hV : VS σ) {a b : Nat} {T T' : Int} {s s' : Nat} (ha : a < (σ 0).toNat) (hb : b < (σ 0).toNat) (h : FLW σ a b T s) (h' : FLW σ b a T' s') : T = T' ∧ ∀ i, s.testBit i = true → s'.testBit i = false := by
  obtain ⟨h1, h2, h3, h4, h5⟩ := h
  obtain ⟨g1, g2, g3, g4, g5⟩ := h'
  have c1 := h5 (difN (2 ^ (σ 0).toNat - 1) s') (by rw [cpl_bit ha, g3]; rfl) (by rw [cpl_bit hb, g2]; rfl)
  have c2 := g5 (difN (2 ^ (σ 0).toNat - 1) s) (by rw [cpl_bit hb, h3]; rfl) (by rw [cpl_bit ha, h2]; rfl)
  rw [outZ_cpl hV] at c1 c2
  refine ⟨by omega, fun i hi => ?_⟩
  have := c1.2 (by omega) i hi
  rw [difN_bit, Bool.and_eq_true] at this
  have h9 := this.2
  cases c : s'.testBit i
  · rfl
  · rw [c] at h9; cases h9
theorem FLW_least {σ : Nat → Int} (hV : VS σ) {a b : Nat} {T x : Int} {s : Nat} (ha : a < (σ 0).toNat) (hb : b < (σ 0).toNat) (h2 : 2 ≤ σ 0) (h : FLW σ a b T s) (hL : LFL σ x) : x ≤ T := by
  obtain ⟨h1, q2, h3, h4, h5⟩ := h
  have hl := (hL.2 h2).2
  have ne : ∀ (S c : Nat), S < 2 ^ (σ 0).toNat → c < (σ 0).toNat → S.testBit c = false → S < 2 ^ (σ 0).toNat - 1 := fun S c hS hc hf => by
    by_cases e : S = 2 ^ (σ 0).toNat - 1
    · rw [e, Nat.testBit_two_pow_sub_one] at hf
      have := of_decide_eq_false hf
      omega
    · omega
  by_cases c : s.testBit 0 = true
  · have := hl s ((bit0 s).mp c) (ne s b h1 hb h3)
    omega
  · have hc : (difN (2 ^ (σ 0).toNat - 1) s).testBit 0 = true := by
      rw [cpl_bit (by omega)]
      simp only [Bool.not_eq_true] at c
      rw [c]; rfl
    have := hl (difN (2 ^ (σ 0).toNat - 1) s) ((bit0 _).mp hc) (ne _ a (cpl_lt _ _) ha (by rw [cpl_bit ha, q2]; rfl))
    rw [outZ_cpl hV] at this
    omega
theorem FLW_edge {σ : Nat → Int} (hV : VS σ) {a b : Nat} {T : Int} {s : Nat} (h : FLW σ a b T s) (hT : 0 ≤ T) : (if edgeZ σ (a : Int) (b : Int) (σ 1).toNat = -1 then 0 else σ (190 + (edgeZ σ (a : Int) (b : Int) (σ 1).toNat).toNat)) ≤ T := by
  obtain ⟨h1, h2, h3, h4, h5⟩ := h
  by_cases c : edgeZ σ (a : Int) (b : Int) (σ 1).toNat = -1
  · rw [if_pos c]; exact hT
  · rw [if_neg c]
    obtain ⟨e, e1, e2, e3⟩ := edgeZ_is c
    rw [e2, Int.toNat_natCast]
    have := sm_one (g := fun e => if s.testBit (σ (110 + e)).toNat = s.testBit (σ (150 + e)).toNat then 0 else σ (190 + e)) (m := (σ 1).toNat) (a := e) (fun k hk => by
      have := hV.w hk
      split <;> omega) e1
    have hne : ¬ s.testBit (σ (110 + e)).toNat = s.testBit (σ (150 + e)).toNat := by
      rcases e3 with e3 | e3
      · rw [e3.1, e3.2, Int.toNat_natCast, Int.toNat_natCast, h2, h3]; decide
      · rw [e3.1, e3.2, Int.toNat_natCast, Int.toNat_natCast, h2, h3]; decide
    rw [if_neg hne] at this
    rw [← h4]
    exact this
section FLS
variable {σ : Nat → Int} {nm : Nat → Int64} {u nw : Nat} {pf : Nat → Nat → Int} {I : Ii} {J : Jj} {sL : Nat} {xs : Nat → Int} {Q : Int → Ii → Jj → Prop}
theorem c_flows (h : LWS σ nm u nw pf I J) (hq : ∀ (I' : Ii) (J' : Jj), LWK σ nm u nw pf I I' J' → Q 1 I' J') : wp_L_flows sL xs I J Q := by
  have hV := h.2.2.1.1.1
  have hM := hV.M
  have b10 := h.2.2.1.1.2
  have rows : ∀ d a : Nat, a + d = (σ 0).toNat → ∀ (I1 : Ii) (J1 : Jj), LWK σ nm u nw pf I I1 J1 → L_L_flows_2 sL xs Q (d + 1) (a : Int) I1 J1 := by
    intro d
    induction d with
    | zero =>
      intro a ha I1 J1 k1
      show Lb_L_flows_2 sL xs Q _ (a : Int) I1 J1
      unfold Lb_L_flows_2
      rw [k1.1.2.2.1.n]
      exact ⟨⟨by omega, by omega⟩, ⟨by omega, by omega⟩, fun _ => hq I1 J1 k1, fun z => absurd (by omega) z⟩
    | succ d ihd =>
      intro a ha I1 J1 k1
      show Lb_L_flows_2 sL xs Q (L_L_flows_2 sL xs Q (d + 1)) (a : Int) I1 J1
      unfold Lb_L_flows_2
      rw [k1.1.2.2.1.n]
      refine ⟨⟨by omega, by omega⟩, ⟨by omega, by omega⟩, fun z => by omega, fun _ => ?_⟩
      have nxt : ∀ (I2 : Ii) (J2 : Jj), LWK σ nm u nw pf I I2 J2 → L_L_flows_2 sL xs Q (d + 1) ((a : Int) + 1) I2 J2 := fun I2 J2 k2 => by
        rw [show ((a : Int) + 1) = ((a + 1 : Nat) : Int) by omega]
        exact ihd (a + 1) (by omega) I2 J2 k2
      generalize L_L_flows_2 sL xs Q (d + 1) = r2 at nxt ⊢
      have cells : ∀ e b : Nat, b + e = a → ∀ (I2 : Ii) (J2 : Jj), LWK σ nm u nw pf I I2 J2 → L_L_flows_12 sL xs Q r2 (e + 1) (a : Int) (b : Int) I2 J2 := by
        intro e
        induction e with
        | zero =>
          intro b hb I2 J2 k2
          show Lb_L_flows_12 sL xs Q r2 _ (a : Int) (b : Int) I2 J2
          unfold Lb_L_flows_12
          exact ⟨⟨by omega, by omega⟩, ⟨by omega, by omega⟩, fun _ => nxt I2 J2 k2, fun z => absurd (by omega) z⟩
        | succ e ihe =>
          intro b hb I2 J2 k2
          show Lb_L_flows_12 sL xs Q r2 (L_L_flows_12 sL xs Q r2 (e + 1)) (a : Int) (b : Int) I2 J2
          unfold Lb_L_flows_12
          have han : a < (σ 0).toNat := by omega
          have hbn : b < (σ 0).toNat := by omega
          refine ⟨⟨by omega, by omega⟩, ⟨by omega, by omega⟩, fun z => by omega, fun _ => ?_⟩
          refine fr_X11_flow (c_flow hV k2.1.1 rfl han rfl hbn) (fun v5 I5 J5 e5 s5 => ?_)
          have k5 := k2.q s5
          obtain ⟨T, s, hF, rfl⟩ := e5.2 (by omega)
          clear e5
          refine fr_X11_flow (c_flow hV k5.1.1 rfl hbn rfl han) (fun v6 I6 J6 e6 s6 => ?_)
          have k6 := k5.q s6
          obtain ⟨T', s', hF', rfl⟩ := e6.2 (by omega)
          clear e6
          have hsy := FLW_sym hV han hbn hF hF'
          have bT := outZ_b hM s
          rw [hF.2.2.2.1] at bT
          refine ⟨⟨by omega, by omega⟩, ⟨by omega, by omega⟩, fun z => absurd hsy.1 z, fun _ => ?_⟩
          refine fr_X11_between (c_between hV k6.1.1 (by omega) (by omega)) (fun v9 e9 => ?_)
          have he := FLW_edge hV hF bT.1
          rw [← e9] at he
          have b9 : 0 ≤ v9 := by
            rw [e9]
            split
            · omega
            · rename_i c
              obtain ⟨x, x1, x2, -⟩ := edgeZ_is c
              rw [x2, Int.toNat_natCast]
              have := hV.w x1
              omega
          refine ⟨⟨by omega, by omega⟩, ⟨by omega, by omega⟩, fun z => by omega, fun _ => ?_⟩
          have p10 : 2 ^ (σ 0).toNat ≤ 2 ^ 10 := Nat.pow_le_pow_right (by decide) (by omega)
          have pa : 2 ^ a < 2 ^ (σ 0).toNat := Nat.pow_lt_pow_right (by decide) han
          have cl := cpl_lt (σ 0).toNat (2 ^ a)
          have cls := cpl_lt (σ 0).toNat s
          have hs := hF.1
          refine w_all k6.1.2.2.1 (w_links k6.1.2.2.1 (S := 2 ^ a) (T := difN (2 ^ (σ 0).toNat - 1) (2 ^ a)) (shl1Z (by omega)) (by omega) (by rw [shl1Z (by omega)]; exact andn_nat (by omega)) (by omega) ?_)
          rw [lk_out hV]
          have hTa := (hF.2.2.2.2 (2 ^ a) (by rw [Nat.testBit_two_pow]; simp) (by rw [Nat.testBit_two_pow]; simp; omega)).1
          have boa := outZ_b hM (2 ^ a)
          refine ⟨⟨by omega, by omega⟩, ⟨by omega, by omega⟩, fun z => by omega, fun _ => ?_⟩
          refine fr_X11_leastFlow (c_leastFlow hV k6.1.1) (fun v16 I16 J16 e16 s16 => ?_)
          have k16 := k6.q s16
          have hl := FLW_least hV han hbn (by omega) hF e16
          have b16 : 0 ≤ v16 := by
            have q16 := (e16.2 (by omega)).1
            obtain ⟨S, -, -, hS⟩ := q16
            rw [← hS]
            exact (outZ_b hM S).1
          refine ⟨⟨by omega, by omega⟩, ⟨by omega, by omega⟩, fun _ => ?_, fun z => by omega⟩
          refine fr_X11_side (c_side hV k16.1.1 rfl han rfl hbn) (fun v19 I19 J19 e19 s19 => ?_)
          have k19 := k16.q s19
          obtain ⟨T2, s2, hF2, rfl⟩ := e19.2 (by omega)
          clear e19
          have es := (FLW_one hF hF2).2
          subst es
          rw [bit1 (by omega) (by omega), bit1 (by omega) (by omega), if_pos hF.2.1, if_neg (by rw [hF.2.2.1]; decide)]
          refine ⟨fun z => absurd z (by decide), fun _ => ⟨fun z => absurd z (by decide), fun _ => ?_⟩⟩
          refine w_all k19.1.2.2.1 (w_links k19.1.2.2.1 (S := s) (T := difN (2 ^ (σ 0).toNat - 1) s) rfl (by omega) (andn_nat (by omega)) (by omega) ?_)
          rw [lk_out hV, hF.2.2.2.1]
          refine ⟨⟨by omega, by omega⟩, ⟨by omega, by omega⟩, fun z => absurd rfl z, fun _ => ?_⟩
          refine fr_X11_side (c_side hV k19.1.1 rfl hbn rfl han) (fun v24 I24 J24 e24 s24 => ?_)
          have k24 := k19.q s24
          obtain ⟨T3, s3, hF3, rfl⟩ := e24.2 (by omega)
          clear e24
          have es3 := (FLW_one hF' hF3).2
          subst es3
          have hz : s &&& s' = 0 := by
            apply Nat.eq_of_testBit_eq
            intro i
            rw [Nat.testBit_and, Nat.zero_testBit]
            cases c : s.testBit i
            · rfl
            · rw [hsy.2 i c]; rfl
          rw [andZ_nat (by omega), hz]
          refine ⟨fun _ => ?_, fun z => absurd rfl z⟩
          rw [show ((b : Int) + 1) = ((b + 1 : Nat) : Int) by omega]
          exact ihe (b + 1) (by omega) I24 J24 k24
      exact ⟨_, cells a 0 (by omega) I1 J1 k1⟩
  exact ⟨_, rows (σ 0).toNat 0 (by omega) I J ⟨h, fun _ _ => rfl⟩⟩
end FLS
