/-! ===== more rules: a quotient of what is below 0; copies of rows of ints; the script's numbers ===== -/
section WYG
variable {G : KG} {X : KX} {nL : Nat} {Qs : State → Prop} {a b pc : Nat} {lv : List (Option Value)} {st : List Value} {I : Ii} {J : Jj} {cc : ByteArray} {own : String} {ret : Option FieldType} {Ts : List Cond}
theorem iZ_divN {x : Int} (g : -2147483648 < x ∧ x ≤ 0) : iZ x / iZ 100 = iZ (-((-x) / 100)) := by
  apply Int32.toInt_inj.mp
  rw [Int32.toInt_div, iZ_toInt (z := x) (by omega), iZ_toInt (z := 100) (by omega), iZ_toInt (z := -((-x) / 100)) (by omega)]
  have e : x.tdiv 100 = -((-x) / 100) := by
    have h1 : x = -(-x) := by omega
    rw [h1, Int.neg_tdiv, Int.tdiv_eq_ediv_of_nonneg (by omega)]
    omega
  rw [e]
  exact Int.bmod_eq_of_le (by omega) (by omega)
theorem wy_idivN (C : Fr G X cc nL own ret Ts) {x : Int} (g : -2147483648 < x ∧ x ≤ 0) (d : decode cc pc = .ok (.idiv, 1)) (k : Wz G X nL Qs a b (pc + 1) lv (.int (iZ (-((-x) / 100))) :: st) I J) : Wz G X nL Qs a b pc lv (.int (iZ 100) :: .int (iZ x) :: st) I J := by
  refine wm_idiv (S := (I, J)) C (by decide) d ?_
  rw [iZ_divN g]
  exact k
theorem wy_copyDD (C : Fr G X cc nL own ret Ts) {o1 o2 index : Nat} {sp dp n : Int} (g : (dS I o1 = 1 ∧ dS I o2 = 1) ∧ ((((0 : Int) ≤ sp ∧ (0 : Int) ≤ dp) ∧ ((0 : Int) ≤ n ∧ n < 2147483648)) ∧ (sp + n ≤ dL I o1 ∧ dp + n ≤ dL I o2))) (hl9 : Cond.methodLink own index arraycopyName ∈ Ts) (hn9 : Cond.native arraycopyName ∈ Ts) (hst9 : Cond.static arraycopyName ∈ Ts) (hi9 : Cond.initialized "java/lang/System" ∈ Ts)
    (hR : 1 ≤ (KR X).frames ∧ (st.map fun v => v.category).sum + 60 ≤ (KR X).locals)
    (d : decode cc pc = .ok (.invokestatic index, 3)) (k : ∀ I2 : Ii, I2 = upr I o2 (va_cpy (I o1) (I o2) sp.toNat dp.toNat n.toNat) → Wz G X nL Qs a b (pc + 3) lv st I2 J) : Wz G X nL Qs a b pc lv (.int (iZ n) :: .int (iZ dp) :: .ref (kadr G o2) :: .int (iZ sp) :: .ref (kadr G o1) :: st) I J := by
  refine Wz.know (fun hs hl => ?_)
  have h1 := dL_b hs (dS_1 hs hl g.1.1 (Or.inl rfl)) (by rw [g.1.1]; decide)
  have h2 := dL_b hs (dS_1 hs hl g.1.2 (Or.inl rfl)) (by rw [g.1.2]; decide)
  have hnw : nativeFrameWords "java/lang/System" "arraycopy" 5 + 11 ≤ 60 := by decide
  exact wd_copyI C (sK1 hs hl g.1.1) (sK1 hs hl g.1.2) hl9 hn9 hst9 hi9 ⟨g.2.1, by omega, by omega⟩ (by omega) (by omega) ⟨hR.1, by have := hR.2; omega⟩ d k
theorem wy_copyWD (C : Fr G X cc nL own ret Ts) {o1 n1 o2 index : Nat} {sp dp n : Int} (hs1 : sRG G (I, J) o1 0 n1) (g : dS I o2 = 1 ∧ ((((0 : Int) ≤ sp ∧ (0 : Int) ≤ dp) ∧ ((0 : Int) ≤ n ∧ n < 2147483648)) ∧ (sp + n ≤ (n1 : Int) ∧ dp + n ≤ dL I o2))) (hl9 : Cond.methodLink own index arraycopyName ∈ Ts) (hn9 : Cond.native arraycopyName ∈ Ts) (hst9 : Cond.static arraycopyName ∈ Ts) (hi9 : Cond.initialized "java/lang/System" ∈ Ts)
    (hR : 1 ≤ (KR X).frames ∧ (st.map fun v => v.category).sum + 60 ≤ (KR X).locals) (hn1 : n1 ≤ 2147483647 := by decide)
    (d : decode cc pc = .ok (.invokestatic index, 3)) (k : ∀ I2 : Ii, I2 = upr I o2 (va_cpy (I o1) (I o2) sp.toNat dp.toNat n.toNat) → Wz G X nL Qs a b (pc + 3) lv st I2 J) : Wz G X nL Qs a b pc lv (.int (iZ n) :: .int (iZ dp) :: .ref (kadr G o2) :: .int (iZ sp) :: .ref (kadr G o1) :: st) I J := by
  refine Wz.know (fun hs hl => ?_)
  have h2 := dL_b hs (dS_1 hs hl g.1 (Or.inl rfl)) (by rw [g.1]; decide)
  have hnw : nativeFrameWords "java/lang/System" "arraycopy" 5 + 11 ≤ 60 := by decide
  exact wd_copyI C hs1 (sK1 hs hl g.1) hl9 hn9 hst9 hi9 ⟨g.2.1, by omega, by omega⟩ hn1 (by omega) ⟨hR.1, by have := hR.2; omega⟩ d k
end WYG
theorem k_L_cell (G : KG) (hG : Kok G) (hW : KWx G) {sL : Nat} {xs : Nat → Int} (hT : KScr G sL xs) (l1 : Int) (I : Ii) (J : Jj) (Q : Int → Ii → Jj → Prop) (h : wp_L_cell sL xs l1 I J Q) : Ctr G yL_cell wsL_cell rm_L_cell [.ref (kadr G 998), .int (iZ l1)] (I, J) (QsI Q) := by
  obtain ⟨g, h⟩ := h
  refine Ctr.ofZ (cc := cL_cell) (nL := 2) (ret := (some .int)) [some (.ref (kadr G 998)), some (.int (iZ l1))] hG (by decide +kernel) rfl (Nat.le_of_ble_eq_true rfl) (Nat.le_of_ble_eq_true rfl) (by simp [lvA, lv_args, Value.category]) ?_
  intro X hX C
  refine wz_iload_n C rfl rfl dL_cell_0 ?_
  refine wz_aload_n C rfl rfl dL_cell_1 ?_
  have hlen : ∀ k : Wz G X 2 (QsU G X (QsI Q)) 0 0 3 [some (.ref (kadr G 998)), some (.int (iZ l1))] (.int (iZ (sL : Int)) :: .int (iZ l1) :: []) I J, Wz G X 2 (QsU G X (QsI Q)) 0 0 2 [some (.ref (kadr G 998)), some (.int (iZ l1))] (.ref (kadr G 998) :: .int (iZ l1) :: []) I J := by
    intro k
    obtain ⟨p, e, R, s, m, args, below, meth, c⟩ := X
    obtain ⟨hx, hb, hml, hown, hts, hr, hlk9, hKK, hG, hlo⟩ := C
    intro k9 n9 hk9 hn9 H locs ls hP hS hl
    exact va_tlen hx hb (hT.2 s hKK.2.2.1) hS (v := iZ (sL : Int)) rfl dL_cell_2 (k k9 n9 hk9 hn9 H locs ls hP hS hl)
  refine hlen ?_
  have hL := hT.1
  refine wz_icmp_ge C (tgt := 12) (by omega) (by omega) dL_cell_3 (by decide) (fun c => ?_) (fun c => ?_)
  · refine wz_ldc C (n := 1664525) (v := 1664525) (by decide) (by decide +kernel) dL_cell_12 ?_
    refine wz_iload_n C rfl rfl dL_cell_14 ?_
    refine wz_imul C dL_cell_15 ?_
    refine wz_ldc C (n := 40018) (v := 40018) (by decide) (by decide +kernel) dL_cell_16 ?_
    refine wz_iadd C dL_cell_18 ?_
    refine wz_iret C dL_cell_19 ⟨_, rfl, ?_⟩
    unfold clZ at h
    rw [if_neg (by omega)] at h
    exact h
  · refine wz_aload_n C rfl rfl dL_cell_6 ?_
    refine wz_iload_n C rfl rfl dL_cell_7 ?_
    have hld : ∀ k : Wz G X 2 (QsU G X (QsI Q)) 0 0 9 [some (.ref (kadr G 998)), some (.int (iZ l1))] (.int (iZ (xs l1.toNat)) :: []) I J, Wz G X 2 (QsU G X (QsI Q)) 0 0 8 [some (.ref (kadr G 998)), some (.int (iZ l1))] (.int (iZ l1) :: .ref (kadr G 998) :: []) I J := by
      intro k
      obtain ⟨p, e, R, s, m, args, below, meth, c9⟩ := X
      obtain ⟨hx, hb, hml, hown, hts, hr, hlk9, hKK, hG, hlo⟩ := C
      intro k9 n9 hk9 hn9 H locs ls hP hS hl
      exact va_ti hx hb (hT.2 s hKK.2.2.1) hS (v := .int (iZ (xs l1.toNat))) (iZ_vp g.1 (by omega) (by omega)) (by rw [iZ_cN g.1 (by omega)]) dL_cell_8 (k k9 n9 hk9 hn9 H locs ls hP hS hl)
    refine hld ?_
    refine wz_goto C dL_cell_9 (tgt := 19) (by decide) ?_
    refine wz_iret C dL_cell_19 ⟨_, rfl, ?_⟩
    unfold clZ at h
    rw [if_pos (by omega)] at h
    exact h
