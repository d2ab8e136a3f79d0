/-! ===== more rules: a quotient of what is below 0; copies of rows of ints; the script's numbers ===== -/
section WYG
variable {G : KG} {X : KX} {nL : Nat} {Qs : State → Prop} {a b pc : Nat} {lv : List (Option Value)} {st : List Value} {I : Ii} {J : Jj} {cc : ByteArray} {own : String} {ret : Option FieldType} {Ts : List Cond}
theorem wy_getB2 (C : Fr G X cc nL own ret Ts) {idx o : Nat} (f : FLk Ts own idx 1 2) (g : dS I o = 6) (d : decode cc pc = .ok (.getfield idx, 3)) (k : Wz G X nL Qs a b (pc + 3) lv (.int (iZ (I o 2)) :: st) I J) : Wz G X nL Qs a b pc lv (.ref (kadr G o) :: st) I J :=
  Wz.know (fun hs hl => wz_getI C rfl f (sB_2 hs hl g) d k)
theorem iZ_divN {x : Int} (g : -2147483648 < x ∧ x ≤ 0) : iZ x / iZ 100 = iZ (-((-x) / 100)) := by
  apply Int32.toInt_inj.mp
  rw [Int32.toInt_div, iZ_toInt (z := x) (by omega), iZ_toInt (z := 100) (by omega), iZ_toInt (z := -((-x) / 100)) (by omega)]
  have e : x.tdiv 100 = -((-x) / 100) := by
    have h1 : x = -(-x) := by omega
    rw [h1, Int.neg_tdiv, Int.tdiv_eq_ediv_of_nonneg (by omega)]
    omega
  rw [e]
  exact Int.bmod_eq_of_le (by omega) (by omega)
theorem wy_idivN (C : Fr G X cc nL own ret Ts) {x : Int} (g : -2147483648 < x ∧ x ≤ 0) (d : decode cc pc = .ok (.idiv, 1)) (k : Wz G X nL Qs a b (pc + 1) lv (.int (iZ (-((-x) / 100))) :: st) I J) : Wz G X nL Qs a b pc lv (.int (iZ 100) :: .int (iZ x) :: st) I J := by
  refine wm_idiv (S := (I, J)) C (by decide) d ?_
  rw [iZ_divN g]
  exact k
theorem wy_copyDD (C : Fr G X cc nL own ret Ts) {o1 o2 index : Nat} {sp dp n : Int} (g : (dS I o1 = 1 ∧ dS I o2 = 1) ∧ ((((0 : Int) ≤ sp ∧ (0 : Int) ≤ dp) ∧ ((0 : Int) ≤ n ∧ n < 2147483648)) ∧ (sp + n ≤ dL I o1 ∧ dp + n ≤ dL I o2))) (hl9 : Cond.methodLink own index arraycopyName ∈ Ts) (hn9 : Cond.native arraycopyName ∈ Ts) (hst9 : Cond.static arraycopyName ∈ Ts) (hi9 : Cond.initialized "java/lang/System" ∈ Ts)
    (hR : 1 ≤ (KR X).frames ∧ (st.map fun v => v.category).sum + 60 ≤ (KR X).locals)
    (d : decode cc pc = .ok (.invokestatic index, 3)) (k : ∀ I2 : Ii, I2 = upr I o2 (va_cpy (I o1) (I o2) sp.toNat dp.toNat n.toNat) → Wz G X nL Qs a b (pc + 3) lv st I2 J) : Wz G X nL Qs a b pc lv (.int (iZ n) :: .int (iZ dp) :: .ref (kadr G o2) :: .int (iZ sp) :: .ref (kadr G o1) :: st) I J := by
  refine Wz.know (fun hs hl => ?_)
  have h1 := dL_b hs (dS_1 hs hl g.1.1 (Or.inl rfl)) (by rw [g.1.1]; decide)
  have h2 := dL_b hs (dS_1 hs hl g.1.2 (Or.inl rfl)) (by rw [g.1.2]; decide)
  have hnw : nativeFrameWords "java/lang/System" "arraycopy" 5 + 11 ≤ 60 := by decide
  exact wd_copyI C (sK1 hs hl g.1.1) (sK1 hs hl g.1.2) hl9 hn9 hst9 hi9 ⟨g.2.1, by omega, by omega⟩ (by omega) (by omega) ⟨hR.1, by have := hR.2; omega⟩ d k
theorem wy_copyWD (C : Fr G X cc nL own ret Ts) {o1 n1 o2 index : Nat} {sp dp n : Int} (hs1 : sRG G (I, J) o1 0 n1) (g : dS I o2 = 1 ∧ ((((0 : Int) ≤ sp ∧ (0 : Int) ≤ dp) ∧ ((0 : Int) ≤ n ∧ n < 2147483648)) ∧ (sp + n ≤ (n1 : Int) ∧ dp + n ≤ dL I o2))) (hl9 : Cond.methodLink own index arraycopyName ∈ Ts) (hn9 : Cond.native arraycopyName ∈ Ts) (hst9 : Cond.static arraycopyName ∈ Ts) (hi9 : Cond.initialized "java/lang/System" ∈ Ts)
    (hR : 1 ≤ (KR X).frames ∧ (st.map fun v => v.category).sum + 60 ≤ (KR X).locals) (hn1 : n1 ≤ 2147483647 := by decide)
    (d : decode cc pc = .ok (.invokestatic index, 3)) (k : ∀ I2 : Ii, I2 = upr I o2 (va_cpy (I o1) (I o2) sp.toNat dp.toNat n.toNat) → Wz G X nL Qs a b (pc + 3) lv st I2 J) : Wz G X nL Qs a b pc lv (.int (iZ n) :: .int (iZ dp) :: .ref (kadr G o2) :: .int (iZ sp) :: .ref (kadr G o1) :: st) I J := by
  refine Wz.know (fun hs hl => ?_)
  have h2 := dL_b hs (dS_1 hs hl g.1 (Or.inl rfl)) (by rw [g.1]; decide)
  have hnw : nativeFrameWords "java/lang/System" "arraycopy" 5 + 11 ≤ 60 := by decide
  exact wd_copyI C hs1 (sK1 hs hl g.1) hl9 hn9 hst9 hi9 ⟨g.2.1, by omega, by omega⟩ hn1 (by omega) ⟨hR.1, by have := hR.2; omega⟩ d k
end WYG
