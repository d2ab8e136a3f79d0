/-! ===== statements: the class ===== -/
/-- the class while it reads a text -/
def CS (B : Nat → Int) (E : Nat) (t : St) (I : Ii) (J : Jj) : Prop := CT B E 0 t.2.2.2 I ∧ RG 210 I J t.1 t.2.1 ∧ I 210 4 = t.1 4 ∧ I 103 0 = (t.2.2.1 : Int)
/-- what the class answers of a statement -/
def CQ (B : Nat → Int) (E : Nat) (x : Except (Int × Nat) St) (r : Int) (I : Ii) (J : Jj) : Prop := PO x (fun c s => r = 0 ∧ CE c s 0 I) (fun u => r = 1 ∧ CS B E u I J)
section CST
variable {I : Ii} {J : Jj} {B : Nat → Int} {E : Nat} {σ : Nat → Int} {nm : Nat → Int64} {T p w0 : Nat}
theorem addV_0 {n : Int} : addV σ n 0 = σ 0 + 1 := by unfold addV; rw [updr_ne (by decide), updr_self]
theorem addV_o {n : Int} {i : Nat} (a : i ≠ 0) (b : i ≠ 105) (c : i ≠ 7 + (σ 0).toNat) (d : i ≠ 35 + (σ 0).toNat) : addV σ n i = σ i := by
  unfold addV; rw [updr_ne b, updr_ne a, updr_ne d, updr_ne c]
theorem addV_w {n : Int} (h : σ 0 < 14) : addV σ n (7 + (σ 0).toNat) = n := by unfold addV; rw [updr_ne (by omega), updr_ne (by omega), updr_ne (by omega), updr_self]
theorem addV_of {w : Int64} {n : Int} (hP : PS σ) (h14 : σ 0 < 14) (hR : RG 210 I J σ nm) {Q : Ii → Jj → Prop} (hq : ∀ I' J', RG 210 I' J' (addV σ n) (updr nm (σ 0).toNat w) → Same (W_X2_addVertex 210) I J I' J' → Q I' J') : wp_X2_addVertex 210 w n I J Q := by
  have b0 := ms_0 hP.1
  have b1 := ms_1 hP.1
  have hn := hR.n
  refine fr_X2_addVertex (P := fun I' J' => RG 210 I' J' (addV σ n) (updr nm (σ 0).toNat w)) ?_ hq
  refine ⟨Or.inr (Or.inl rfl), rgK (by omega), fun c => by omega, fun _ => ⟨by omega, ?_⟩⟩
  intro J3 e3
  refine put_of (n := 14) (i := (σ 0).toNat) rfl (by omega) (by omega) (fun I4 e4 => ?_)
  intro I5 e5 I6 e6
  have k0 : (I 210 0).toNat = (σ 0).toNat := by rw [hn]
  rw [k0] at e3
  have ek : ∀ k, k ≠ 210 → k ≠ 212 → I6 k = I k := fun k a b => by rw [e6, up2_key a, e5, up2_key a, e4, up2_key b]
  have ef : ∀ i, i ≠ 0 → i ≠ 5 → I6 210 i = I 210 i := fun i a b => by rw [e6, up2_ne (by omega), e5, up2_ne (by omega), e4, up2_ne (by omega)]
  have em : (addV σ n 1) = σ 1 := addV_o (by omega) (by omega) (by omega) (by omega)
  have e0 : (addV σ n 0).toNat = (σ 0).toNat + 1 := by rw [addV_0]; omega
  refine ⟨?_, ?_, ?_, ?_, ?_, ?_, fun v hv => ?_, fun v hv => ?_, fun e he => ?_, fun e he => ?_, fun e he => ?_⟩
  · rw [addV_0, e6, up2_self, e5, up2_ne (by omega), e4, up2_ne (by omega), hn]
  · rw [em, ef 1 (by omega) (by omega)]; exact hR.m
  · rw [addV_o (by omega) (by omega) (by omega) (by omega), ef 2 (by omega) (by omega)]; exact hR.q
  · rw [addV_o (by omega) (by omega) (by omega) (by omega), ef 3 (by omega) (by omega)]; exact hR.s
  · have : allW (addV σ n) = allW σ + n := by
      unfold allW
      rw [e0, sm_succ, addV_w h14, sm_cong (g := fun v => σ (7 + v)) (fun k hk => addV_o (by omega) (by omega) (by omega) (by omega))]
    rw [this, e6, up2_ne (by omega), e5, up2_self, e4, up2_ne (by omega), hR.aw]
  · have : allE (addV σ n) = allE σ := by
      unfold allE
      rw [em]
      exact sm_cong (fun k hk => addV_o (by omega) (by omega) (by omega) (by omega))
    rw [this, ef 6 (by omega) (by omega)]; exact hR.ae
  · rw [e0] at hv
    show I6 212 v = _
    rw [e6, up2_ne (by omega), e5, up2_ne (by omega), e4]
    by_cases c : v = (σ 0).toNat
    · rw [c, up2_self, addV_w h14]
    · rw [up2_ne (by omega), addV_o (by omega) (by omega) (by omega) (by omega)]; exact hR.w (by omega)
  · rw [e0] at hv
    show J3 211 v = _
    rw [e3]
    by_cases c : v = (σ 0).toNat
    · rw [c, up2_self, updr_self]
    · rw [up2_ne (by omega), updr_ne c]; exact hR.z (by omega)
  · rw [em] at he
    show I6 213 e = _
    rw [ek 213 (by omega) (by omega), addV_o (by omega) (by omega) (by omega) (by omega)]; exact hR.a he
  · rw [em] at he
    show I6 214 e = _
    rw [ek 214 (by omega) (by omega), addV_o (by omega) (by omega) (by omega) (by omega)]; exact hR.b he
  · rw [em] at he
    show I6 215 e = _
    rw [ek 215 (by omega) (by omega), addV_o (by omega) (by omega) (by omega) (by omega)]; exact hR.h he
theorem addE_1 {a b n : Int} : addE σ a b n 1 = σ 1 + 1 := by unfold addE; rw [updr_self]
theorem addE_o {a b n : Int} {i : Nat} (h : i ≠ 1) (h1 : i ≠ 110 + (σ 1).toNat) (h2 : i ≠ 150 + (σ 1).toNat) (h3 : i ≠ 190 + (σ 1).toNat) : addE σ a b n i = σ i := by
  unfold addE; rw [updr_ne h, updr_ne h3, updr_ne h2, updr_ne h1]
theorem addE_of {a b n : Int} (hP : PS σ) (h40 : σ 1 < 40) (hR : RG 210 I J σ nm) {Q : Ii → Jj → Prop} (hq : ∀ I' J', RG 210 I' J' (addE σ a b n) nm → Same (W_X2_addEdge 210) I J I' J' → Q I' J') : wp_X2_addEdge 210 a b n I J Q := by
  have b0 := ms_0 hP.1
  have b1 := ms_1 hP.1
  have hm := hR.m
  have xa : addE σ a b n (110 + (σ 1).toNat) = a := by unfold addE; rw [updr_ne (by omega), updr_ne (by omega), updr_ne (by omega), updr_self]
  have xb : addE σ a b n (150 + (σ 1).toNat) = b := by unfold addE; rw [updr_ne (by omega), updr_ne (by omega), updr_self]
  have xn : addE σ a b n (190 + (σ 1).toNat) = n := by unfold addE; rw [updr_ne (by omega), updr_self]
  refine fr_X2_addEdge (P := fun I' J' => RG 210 I' J' (addE σ a b n) nm) ?_ hq
  refine ⟨Or.inr (Or.inl rfl), ?_⟩
  refine put_of (n := 40) (i := (σ 1).toNat) rfl (by omega) (by omega) (fun I1 e1 => ?_)
  have q1 : I1 210 1 = σ 1 := by rw [e1, up2_ne (by omega)]; exact hm
  refine put_of (n := 40) (i := (σ 1).toNat) rfl (by omega) (by omega) (fun I2 e2 => ?_)
  have q2 : I2 210 1 = σ 1 := by rw [e2, up2_ne (by omega)]; exact q1
  refine put_of (n := 40) (i := (σ 1).toNat) rfl (by omega) (by omega) (fun I3 e3 => ?_)
  intro I5 e5 I6 e6
  have ek : ∀ k, k ≠ 210 → k ≠ 213 → k ≠ 214 → k ≠ 215 → I6 k = I k := fun k a b c d => by rw [e6, up2_key a, e5, up2_key a, e3, up2_key d, e2, up2_key c, e1, up2_key b]
  have ef : ∀ i, i ≠ 1 → i ≠ 6 → I6 210 i = I 210 i := fun i a b => by rw [e6, up2_ne (by omega), e5, up2_ne (by omega), e3, up2_ne (by omega), e2, up2_ne (by omega), e1, up2_ne (by omega)]
  have en : (addE σ a b n 0) = σ 0 := addE_o (by omega) (by omega) (by omega) (by omega)
  have e0 : (addE σ a b n 1).toNat = (σ 1).toNat + 1 := by rw [addE_1]; omega
  refine ⟨?_, ?_, ?_, ?_, ?_, ?_, fun v hv => ?_, fun v hv => ?_, fun e he => ?_, fun e he => ?_, fun e he => ?_⟩
  · rw [en, ef 0 (by omega) (by omega)]; exact hR.n
  · rw [addE_1, e6, up2_self, e5, up2_ne (by omega), e3, up2_ne (by omega), q2]
  · rw [addE_o (by omega) (by omega) (by omega) (by omega), ef 2 (by omega) (by omega)]; exact hR.q
  · rw [addE_o (by omega) (by omega) (by omega) (by omega), ef 3 (by omega) (by omega)]; exact hR.s
  · have : allW (addE σ a b n) = allW σ := by
      unfold allW
      rw [en]
      exact sm_cong (fun k hk => addE_o (by omega) (by omega) (by omega) (by omega))
    rw [this, ef 5 (by omega) (by omega)]; exact hR.aw
  · have : allE (addE σ a b n) = allE σ + n := by
      unfold allE
      rw [e0, sm_succ, xn, sm_cong (g := fun v => σ (190 + v)) (fun k hk => addE_o (by omega) (by omega) (by omega) (by omega))]
    rw [this, e6, up2_ne (by omega), e5, up2_self, e3, up2_ne (by omega), e2, up2_ne (by omega), e1, up2_ne (by omega), hR.ae]
  · rw [en] at hv
    show I6 212 v = _
    rw [ek 212 (by omega) (by omega) (by omega) (by omega), addE_o (by omega) (by omega) (by omega) (by omega)]; exact hR.w hv
  · rw [en] at hv
    exact hR.z hv
  · rw [e0] at he
    show I6 213 e = _
    rw [e6, up2_ne (by omega), e5, up2_ne (by omega), e3, up2_ne (by omega), e2, up2_ne (by omega), e1]
    by_cases c : e = (σ 1).toNat
    · rw [c, up2_self, xa]
    · rw [up2_ne (by omega), addE_o (by omega) (by omega) (by omega) (by omega)]; exact hR.a (by omega)
  · rw [e0] at he
    show I6 214 e = _
    rw [e6, up2_ne (by omega), e5, up2_ne (by omega), e3, up2_ne (by omega), e2]
    by_cases c : e = (σ 1).toNat
    · rw [c, up2_self, xb]
    · rw [up2_ne (by omega), e1, up2_ne (by omega), addE_o (by omega) (by omega) (by omega) (by omega)]; exact hR.b (by omega)
  · rw [e0] at he
    show I6 215 e = _
    rw [e6, up2_ne (by omega), e5, up2_ne (by omega), e3]
    by_cases c : e = (σ 1).toNat
    · rw [c, up2_self, xn]
    · rw [up2_ne (by omega), e2, up2_ne (by omega), e1, up2_ne (by omega), addE_o (by omega) (by omega) (by omega) (by omega)]; exact hR.h (by omega)
theorem c_readVertex (hS : PSt E (σ, nm, T, p)) (hC : CS B E (σ, nm, T, p) I J) (h3 : I 101 3 = (w0 : Int)) : wp_X9_readVertex 210 I J (CQ B E (vtx B E σ nm T p w0)) := by
  obtain ⟨hP, hd, hT, hp⟩ := hS
  obtain ⟨hT1, hR, h4, h103⟩ := hC
  dsimp only at hP hd hT hp hT1 hR h4 h103
  have b0 := ms_0 hP.1
  have hn := hR.n
  refine ⟨Or.inr (Or.inl rfl), rgK (by omega), fun c => ?_, fun c => ?_⟩
  · unfold CQ vtx
    rw [if_neg (by omega)]
    refine takes_of hT1 (by decide) (fun k1 I2 J2 t2 q2 w2 s2 => ⟨fun _ => ?_, fun z => absurd z (by decide)⟩) (fun k1 I2 J2 t2 _ => ⟨fun z => absurd rfl z, fun _ => ?_⟩)
    · rw [if_neg (by omega), w2 rfl]
      have hR2 := hR.fr s2
      refine fr_X2_vertexNamed (c_vertexNamed (Or.inr (Or.inl rfl)) hP.1 hR2 hd) (fun v hv => ?_)
      have nb := nmZ_b nm (tW B E p) (σ 0).toNat
      subst hv
      refine ⟨rgK (by omega), fun c2 => ?_, fun c2 => ?_⟩
      · rw [if_neg (by omega)]
        refine takesN_of t2 (by decide) (fun k2 I5 J5 t5 n5 s5 _ => ⟨fun _ => ?_, fun z => absurd z (by decide)⟩) (fun k2 I5 J5 t5 _ => ⟨fun z => absurd rfl z, fun _ => ?_⟩)
        · rw [if_neg (Classical.not_not.mpr k2), n5]
          refine addV_of hP (by omega) (hR2.fr s5) (fun I6 J6 r6 s6 => ⟨rfl, t5.same s6.k s6.k, r6, ?_, ?_⟩)
          · show I6 210 4 = addV σ _ 4
            rw [addV_o (by omega) (by omega) (by omega) (by omega), ← h4]
            exact s6.i.trans (s5.i.trans s2.i)
          · show I6 103 0 = (T : Int)
            rw [← h103]
            exact s6.i.trans (s5.i.trans s2.i)
        · rw [if_pos k2]; exact ⟨rfl, t5⟩
      · rw [if_pos c2]
        exact fail_of q2 t2.2.2.2.1 (fun I' hE _ => ⟨Or.inl rfl, rfl, hE⟩)
    · rw [if_pos k1]; exact ⟨rfl, t2⟩
  · unfold CQ vtx
    rw [if_pos (by omega)]
    exact fail_of h3 hT1.2.2.2.1 (fun I' hE _ => ⟨Or.inl rfl, rfl, hE⟩)
theorem c_readEdge (hS : PSt E (σ, nm, T, p)) (hC : CS B E (σ, nm, T, p) I J) (h3 : I 101 3 = (w0 : Int)) : wp_X9_readEdge 210 I J (CQ B E (edg B E σ nm T p w0)) := by
  obtain ⟨hP, hd, hT, hp⟩ := hS
  obtain ⟨hT1, hR, h4, h103⟩ := hC
  dsimp only at hP hd hT hp hT1 hR h4 h103
  have b0 := ms_0 hP.1
  have b1 := ms_1 hP.1
  have hm := hR.m
  have gk : gK 210 := Or.inr (Or.inl rfl)
  refine ⟨gk, rgK (by omega), fun c => ?_, fun c => ?_⟩
  · unfold CQ edg
    rw [if_neg (by omega)]
    refine takes_of hT1 (by decide) (fun k1 I2 J2 t2 q2 w2 s2 => ⟨fun _ => ?_, fun z => absurd z (by decide)⟩) (fun k1 I2 J2 t2 _ => ⟨fun z => absurd rfl z, fun _ => ?_⟩)
    · rw [if_neg (by omega), w2 rfl]
      have hR2 := hR.fr s2
      refine fr_X2_vertexNamed (c_vertexNamed gk hP.1 hR2 hd) (fun v hv => ?_)
      have nb := nmZ_b nm (tW B E p) (σ 0).toNat
      subst hv
      refine ⟨rgK (by omega), fun c2 => ?_, fun c2 => ?_⟩
      · rw [if_neg c2]
        refine takes_of t2 (by decide) (fun k5 I5 J5 t5 q5 w5 s5 => ⟨fun _ => ?_, fun z => absurd z (by decide)⟩) (fun k5 I5 J5 t5 _ => ⟨fun z => absurd rfl z, fun _ => ?_⟩)
        · rw [if_neg (by omega), w5 rfl]
          have hR5 := hR2.fr s5
          refine fr_X2_vertexNamed (c_vertexNamed gk hP.1 hR5 hd) (fun v hv => ?_)
          have nb5 := nmZ_b nm (tW B E (tE B E p)) (σ 0).toNat
          subst hv
          refine ⟨rgK (by omega), fun c5 => ?_, fun c5 => ?_⟩
          · rw [if_pos c5]
            exact fail_of q5 t5.2.2.2.1 (fun I' hE _ => ⟨Or.inl rfl, rfl, hE⟩)
          · rw [if_neg c5]
            refine ⟨rgK (by omega), fun c6 => ?_, fun c6 => ?_⟩
            · rw [if_neg c6]
              refine fr_X2_edgeOf (c_edgeOf gk hP.vs hR5 (by omega) (by omega)) (fun v hv => ?_)
              have eb := edgeZ_b σ (nmZ nm (tW B E p) (σ 0).toNat) (nmZ nm (tW B E (tE B E p)) (σ 0).toNat) (σ 1).toNat
              subst hv
              refine ⟨rgK (by omega), fun c7 => ?_, fun c7 => ?_⟩
              · rw [if_neg (Classical.not_not.mpr c7)]
                refine takesN_of t5 (by decide) (fun k8 I8 J8 t8 n8 s8 _ => ⟨fun _ => ?_, fun z => absurd z (by decide)⟩) (fun k8 I8 J8 t8 _ => ⟨fun z => absurd rfl z, fun _ => ?_⟩)
                · rw [if_neg (Classical.not_not.mpr k8), n8]
                  refine addE_of hP (by omega) (hR5.fr s8) (fun I6 J6 r6 s6 => ⟨rfl, t8.same s6.k s6.k, r6, ?_, ?_⟩)
                  · show I6 210 4 = addE σ _ _ _ 4
                    rw [addE_o (by omega) (by omega) (by omega) (by omega), ← h4]
                    exact s6.i.trans (s8.i.trans (s5.i.trans s2.i))
                  · show I6 103 0 = (T : Int)
                    rw [← h103]
                    exact s6.i.trans (s8.i.trans (s5.i.trans s2.i))
                · rw [if_pos k8]; exact ⟨rfl, t8⟩
              · rw [if_pos c7]
                exact fail_of q5 t5.2.2.2.1 (fun I' hE _ => ⟨Or.inl rfl, rfl, hE⟩)
            · rw [if_pos c6]
              exact fail_of q5 t5.2.2.2.1 (fun I' hE _ => ⟨Or.inl rfl, rfl, hE⟩)
        · rw [if_pos k5]; exact ⟨rfl, t5⟩
      · rw [if_pos c2]
        exact fail_of q2 t2.2.2.2.1 (fun I' hE _ => ⟨Or.inl rfl, rfl, hE⟩)
    · rw [if_pos k1]; exact ⟨rfl, t2⟩
  · unfold CQ edg
    rw [if_pos (by omega)]
    exact fail_of h3 hT1.2.2.2.1 (fun I' hE _ => ⟨Or.inl rfl, rfl, hE⟩)
theorem once_and {w : Nat} (hw : w ≤ 2) : andZ (T : Int) ((2 ^ w : Nat) : Int) = if T.testBit w = true then ((2 ^ w : Nat) : Int) else 0 := by
  have : 2 ^ w < 2 ^ 3 := Nat.pow_lt_pow_right (by decide) (by omega)
  have e : T &&& 2 ^ w = if T.testBit w = true then 2 ^ w else 0 := by
    apply Nat.eq_of_testBit_eq
    intro i
    rw [Nat.testBit_and, Nat.testBit_two_pow]
    by_cases c : w = i
    · subst c
      cases h : T.testBit w <;> simp
    · cases h : T.testBit w <;> simp [c]
  rw [andZ_nat' (by omega), e]
  split <;> rfl
theorem once_of {w : Nat} (hw : w ≤ 2) (hT : T < 8) (hC : CS B E (σ, nm, T, p) I J) (h3 : I 101 3 = (w0 : Int)) {Q : Int → Ii → Jj → Prop} (h1 : ¬ T.testBit w = true → ∀ I', CT B E 0 p I' → RG 210 I' J σ nm → I' 210 4 = σ 4 → I' 103 0 = ((T ||| 2 ^ w : Nat) : Int) → Q 1 I' J) (h0 : T.testBit w = true → ∀ I', CE 4 w0 0 I' → Q 0 I' J) : wp_X9_takesOnce ((2 ^ w : Nat) : Int) I J Q := by
  obtain ⟨hT1, hR, h4, h103⟩ := hC
  dsimp only at hT1 hR h4 h103
  have p8 : 2 ^ w < 2 ^ 3 := Nat.pow_lt_pow_right (by decide) (by omega)
  have pp : 0 < 2 ^ w := Nat.pos_of_ne_zero (by simp)
  unfold wp_X9_takesOnce
  rw [h103, once_and hw]
  by_cases c : T.testBit w = true
  · rw [if_pos c]
    exact ⟨fun z => by omega, fun _ => fail_of h3 hT1.2.2.2.1 (fun I' hE _ => ⟨Or.inl rfl, h0 c I' hE⟩)⟩
  · rw [if_neg c]
    refine ⟨fun _ I1 e1 => h1 c I1 ?_ ?_ ?_ ?_, fun z => absurd rfl z⟩
    · exact hT1.same (by rw [e1, up2_key (by omega)]) (by rw [e1, up2_key (by omega)])
    · exact hR.cong (by rw [e1, up2_key (by omega)]) rfl (by rw [e1, up2_key (by omega)]) (by rw [e1, up2_key (by omega)]) (by rw [e1, up2_key (by omega)]) (by rw [e1, up2_key (by omega)])
    · rw [e1, up2_ne (by omega)]; exact h4
    · rw [e1, up2_self, orZ_nat (by omega) (by omega)]
theorem RG_set {w : Nat} {n : Int} {I' : Ii} (hw : w ≤ 2) (hR : RG 210 I J σ nm) (e : I' = up2 I 210 (w + 2) n) : RG 210 I' J (updr σ (w + 2) n) nm := by
  have ek : ∀ k, k ≠ 210 → I' k = I k := fun k a => by rw [e, up2_key a]
  have ef : ∀ i, i ≠ w + 2 → I' 210 i = I 210 i := fun i a => by rw [e, up2_ne (by omega)]
  have lo : ∀ i, i ≠ w + 2 → updr σ (w + 2) n i = σ i := fun i a => updr_ne a
  have e0 := lo 0 (by omega)
  have e1 := lo 1 (by omega)
  have es : ∀ i, I' 210 i = (if i = w + 2 then n else I 210 i) := fun i => by
    rw [e]
    unfold up2
    by_cases c : i = w + 2
    · rw [if_pos ⟨rfl, c⟩, if_pos c]
    · rw [if_neg (fun z => c z.2), if_neg c]
  refine ⟨by rw [e0, ef 0 (by omega)]; exact hR.n, by rw [e1, ef 1 (by omega)]; exact hR.m, ?_, ?_, ?_, ?_, fun v hv => ?_, fun v hv => ?_, fun e he => ?_, fun e he => ?_, fun e he => ?_⟩
  · rw [es 2]; unfold updr; split
    · rfl
    · exact hR.q
  · rw [es 3]; unfold updr; split
    · rfl
    · exact hR.s
  · rw [ef 5 (by omega), hR.aw]
    unfold allW
    rw [e0]
    exact (sm_cong (fun k _ => lo _ (by omega))).symm
  · rw [ef 6 (by omega), hR.ae]
    unfold allE
    rw [e1]
    exact (sm_cong (fun k _ => lo _ (by omega))).symm
  · rw [e0] at hv
    show I' 212 v = _
    rw [ek 212 (by omega), lo _ (by omega)]; exact hR.w hv
  · rw [e0] at hv
    exact hR.z hv
  · rw [e1] at he
    show I' 213 e = _
    rw [ek 213 (by omega), lo _ (by omega)]; exact hR.a he
  · rw [e1] at he
    show I' 214 e = _
    rw [ek 214 (by omega), lo _ (by omega)]; exact hR.b he
  · rw [e1] at he
    show I' 215 e = _
    rw [ek 215 (by omega), lo _ (by omega)]; exact hR.h he
/-- parts, slack and credit are read alike -/
theorem c_once {w : Nat} {lo hi : Int} (hw : w ≤ 2) (hl : 0 ≤ lo ∧ lo ≤ 999 ∧ 0 ≤ hi ∧ hi ≤ 999) (hS : PSt E (σ, nm, T, p)) (hC : CS B E (σ, nm, T, p) I J) (h3 : I 101 3 = (w0 : Int)) : wp_X9_takesOnce ((2 ^ w : Nat) : Int) I J (fun v1 I1 J1 => (v1 = 0 → CQ B E (onc B E w lo hi σ nm T p w0) 0 I1 J1) ∧ (¬ v1 = 0 → wp_X10_takesNumber lo hi I1 J1 (fun v2 I2 J2 => (¬ v2 = 0 → ∀ I3 : Ii, I3 = up2 I2 210 (w + 2) (I2 101 7) → CQ B E (onc B E w lo hi σ nm T p w0) 1 I3 J2) ∧ (v2 = 0 → CQ B E (onc B E w lo hi σ nm T p w0) 0 I2 J2)))) := by
  obtain ⟨hP, hd, hT, hp⟩ := hS
  dsimp only at hP hd hT hp
  unfold CQ onc
  refine once_of hw hT hC h3 (fun c I1 t1 r1 q4 q103 => ⟨fun z => absurd z (by decide), fun _ => ?_⟩) (fun c I1 e1 => ⟨fun _ => ?_, fun z => absurd rfl z⟩)
  · rw [if_neg c]
    refine takesN_of t1 hl (fun k2 I5 J5 t5 n5 s5 _ => ⟨fun _ I3 e3 => ?_, fun z => absurd z (by decide)⟩) (fun k2 I5 J5 t5 _ => ⟨fun z => absurd rfl z, fun _ => ?_⟩)
    · rw [if_neg (Classical.not_not.mpr k2)]
      rw [n5] at e3
      have ek : ∀ k, k ≠ 210 → I3 k = I5 k := fun k a => by rw [e3, up2_key a]
      refine ⟨rfl, t5.same (ek 101 (by omega)) (ek 102 (by omega)), RG_set hw (r1.fr s5) e3, ?_, ?_⟩
      · show I3 210 4 = updr σ (w + 2) (tN B E p) 4
        have e5 : I5 210 4 = σ 4 := by rw [← q4]; exact s5.i
        rw [e3]
        by_cases c4 : w = 2
        · subst c4; rw [up2_self, updr_self]
        · rw [up2_ne (by omega), updr_ne (by omega)]; exact e5
      · show I3 103 0 = ((T ||| 2 ^ w : Nat) : Int)
        rw [ek 103 (by omega), ← q103]; exact s5.i
    · rw [if_pos k2]; exact ⟨rfl, t5⟩
  · rw [if_pos c]; exact ⟨rfl, e1⟩
theorem isWord_of {w : Int64} {q : Nat} (h5 : I 101 5 = tK B E q) (h6 : tK B E q = 1 → J 101 6 = tW B E q) {Q : Int → Ii → Jj → Prop} (h1 : isW B E q w → Q 1 I J) (h0 : ¬ isW B E q w → Q 0 I J) : wp_X10_isWordL w I J Q := by
  refine ⟨fun c => h1 ?_, fun c => h0 (fun z => c ?_)⟩
  · rw [h5] at c
    exact ⟨c.1, by rw [← h6 c.1]; exact c.2⟩
  · rw [h5]
    exact ⟨z.1, by rw [h6 z.1]; exact z.2⟩
theorem CQ_b {x : Except (Int × Nat) St} {r : Int} (h : CQ B E x r I J) : r = 0 ∨ r = 1 := by
  cases x with
  | error e => exact Or.inl h.1
  | ok u => exact Or.inr h.1
theorem c_statement {t : St} (hS : PSt E t) (h0 : tK B E t.2.2.2 ≠ 0) (hC : CS B E (t.1, t.2.1, t.2.2.1, tE B E t.2.2.2) I J) (h3 : I 101 3 = (tS B E t.2.2.2 : Int)) (h5 : I 101 5 = tK B E t.2.2.2) (h6 : tK B E t.2.2.2 = 1 → J 101 6 = tW B E t.2.2.2) : wp_X9_readStatement 210 I J (CQ B E (stb B E t)) := by
  have b1 := tE_b (B := B) hS.2.2.2
  have hS2 : PSt E (t.1, t.2.1, t.2.2.1, tE B E t.2.2.2) := ⟨hS.1, hS.2.1, hS.2.2.1, b1.2.1⟩
  have gk : gK 210 := Or.inr (Or.inl rfl)
  unfold stb
  refine ⟨gk, isWord_of h5 h6 (fun c => ⟨fun z => absurd z (by decide), fun _ => ?_⟩) (fun c => ⟨fun _ => ?_, fun z => absurd rfl z⟩)⟩
  · rw [if_pos c]
    exact fr_X9_readVertex (c_readVertex hS2 hC h3) (fun v I' J' h _ => ⟨CQ_b h, h⟩)
  rw [if_neg c]
  refine isWord_of h5 h6 (fun c2 => ⟨fun z => absurd z (by decide), fun _ => ?_⟩) (fun c2 => ⟨fun _ => ?_, fun z => absurd rfl z⟩)
  · rw [if_pos c2]
    exact fr_X9_readEdge (c_readEdge hS2 hC h3) (fun v I' J' h _ => ⟨CQ_b h, h⟩)
  rw [if_neg c2]
  refine isWord_of h5 h6 (fun c3 => ⟨fun z => absurd z (by decide), fun _ => ?_⟩) (fun c3 => ⟨fun _ => ?_, fun z => absurd rfl z⟩)
  · rw [if_pos c3]
    exact fr_X9_readParts (⟨gk, c_once (w := 0) (lo := 2) (hi := 4) (by decide) (by decide) hS2 hC h3⟩) (fun v I' J' h _ => ⟨CQ_b h, h⟩)
  rw [if_neg c3]
  refine isWord_of h5 h6 (fun c4 => ⟨fun z => absurd z (by decide), fun _ => ?_⟩) (fun c4 => ⟨fun _ => ?_, fun z => absurd rfl z⟩)
  · rw [if_pos c4]
    exact fr_X9_readSlack (⟨gk, c_once (w := 1) (lo := 0) (hi := 99) (by decide) (by decide) hS2 hC h3⟩) (fun v I' J' h _ => ⟨CQ_b h, h⟩)
  rw [if_neg c4]
  refine isWord_of h5 h6 (fun c5 => ⟨fun z => absurd z (by decide), fun _ => ?_⟩) (fun c5 => ⟨fun _ => ?_, fun z => absurd rfl z⟩)
  · rw [if_pos c5]
    exact fr_X9_readCredit (⟨gk, c_once (w := 2) (lo := 0) (hi := 99) (by decide) (by decide) hS2 hC h3⟩) (fun v I' J' h _ => ⟨CQ_b h, h⟩)
  rw [if_neg c5]
  exact fail_of h3 hC.1.2.2.2.1 (fun I' hE _ => ⟨Or.inl rfl, rfl, hE⟩)
end CST
