/-! ===== what calls make: copies, rows of rows ===== -/
section WYE
variable {G : KG} {X : KX} {nL : Nat} {Qs : State → Prop} {a b a' b' pc : Nat} {lv : List (Option Value)} {st : List Value} {I : Ii} {J : Jj} {cc : ByteArray} {own : String} {ret : Option FieldType} {Ts : List Cond} {Q : Option Value → Sg → Prop}
theorem nnI (z : Int32) (hz : ¬ z < 0) : z.toInt = (z.toNatClampNeg : Int) := by
  have hz0 : (0 : Int) ≤ z.toInt := by
    have := Int32.not_lt.mp hz
    simpa using Int32.le_iff_toInt_le.mp this
  show z.toInt = ((z.toInt.toNat : Nat) : Int)
  omega
theorem fitB {x : Int} (h : 0 ≤ x ∧ x < 128) : fits .byte (.int (iZ x)) = true := by
  have h2 : ∀ b : Fin 128, fits .byte (.int (iZ (b.val : Int))) = true := by decide +kernel
  have e : (((⟨x.toNat, by omega⟩ : Fin 128).val : Nat) : Int) = x := by show ((x.toNat : Nat) : Int) = x; omega
  have := h2 ⟨x.toNat, by omega⟩
  rw [e] at this
  exact this
/-- bytes into a row that a call made -/
theorem wy_copyB (C : Fr G X cc nL own ret Ts) (hW : KWx G) {o1 o2 index : Nat} {sp dp n : Int} (g : ((dS I o1 = 2 ∧ dS I o2 = 2) ∧ 1022 ≤ o2) ∧ ((0 ≤ sp ∧ 0 ≤ dp) ∧ (0 ≤ n ∧ n < 2147483648)) ∧ (sp + n ≤ dL I o1 ∧ dp + n ≤ dL I o2) ∧ ∀ j : Nat, (j : Int) < n → 0 ≤ I o1 (sp.toNat + j) ∧ I o1 (sp.toNat + j) < 128) (hz : sp < 2147483648 ∧ dp < 2147483648)
    (hl9 : Cond.methodLink own index arraycopyName ∈ Ts) (hnat9 : Cond.native arraycopyName ∈ Ts) (hst9 : Cond.static arraycopyName ∈ Ts) (hi9 : Cond.initialized "java/lang/System" ∈ Ts)
    (hR : 1 ≤ (KR X).frames ∧ (st.map fun v => v.category).sum + 60 ≤ (KR X).locals)
    (d : decode cc pc = .ok (.invokestatic index, 3)) (k : ∀ I2 : Ii, I2 = upr I o2 (va_cpy (I o1) (I o2) sp.toNat dp.toNat n.toNat) → Wz G X nL Qs a b (pc + 3) lv st I2 J) : Wz G X nL Qs a b pc lv (.int (iZ n) :: .int (iZ dp) :: .ref (kadr G o2) :: .int (iZ sp) :: .ref (kadr G o1) :: st) I J := by
  have k := k _ rfl
  obtain ⟨p, e, R, s, m, args, below, meth, c⟩ := X
  obtain ⟨hx, hb, hml, hown, hts, hr, hlk, hKK, hG, hlo⟩ := C
  have hK := hKK.1
  intro k9 n9 hk9 hn9 H locs ls hP hS hl
  obtain ⟨⟨⟨g1, g2⟩, g3⟩, ⟨⟨g4, g5⟩, g6, g7⟩, ⟨g8, g9⟩, g10⟩ := g
  have hR : 1 ≤ R.frames ∧ (st.map fun v => v.category).sum + 60 ≤ R.locals := hR
  have hnw : nativeFrameWords "java/lang/System" "arraycopy" 5 + 11 ≤ 60 := by decide
  obtain ⟨cs, t1, t2, t3, t4, -, t6⟩ := byt_of hW hKK hS hP g1
  have t4 : (dL I o1).toNat ≤ cs.slots.size := t4
  have t6 : ∀ j : Nat, j < (dL I o1).toNat → cs.slots[j]? = some (.int (iZ (I o1 j))) := t6
  have hs2 : sRG G (I, J) o2 3 (dL I o2).toNat := sK2 g2 g3
  intro T hT X0
  have hc1 : H[kadr G o2]? = some (vp_cell G.2.2.2.1.2.2.2.1 ((dL I o2).toNat, (.inl (fun i => iZ (I o2 i))))) := hP.row hs2
  have hne : shK G (I, J) o2 ≠ none := by rw [show shK G (I, J) o2 = _ from hs2]; intro z; cases z
  obtain ⟨hst2, k0, hk0, cm0, hkk0⟩ := t2
  obtain ⟨-, k1, hk1, cm1, hkk1⟩ := (hK.2 3 _ rfl).1 (dL I o2).toNat (fun j => .int ((fun i => iZ (I o2 i)) j))
  obtain ⟨vm', X', step⟩ := X0.arraycopy hx hown (hts _ hl9) (hts _ hnat9) (hts _ hst9) (hts _ hi9) (src := kadr G o1) (dst := kadr G o2) (cs := cs) (cd := vp_cell G.2.2.2.1.2.2.2.1 ((dL I o2).toNat, (.inl (fun i => iZ (I o2 i))))) (srcPos := iZ sp) (destPos := iZ dp) (n := iZ n) (by rw [hT]; exact t1) (by rw [hT]; exact hc1)
    hst2 (fun _ h => by cases h) t3 (fun h => by cases h) hk0 hk1 hkk0 hkk1 (by simp [refKind]) (iZ_ng g4 hz.1) (iZ_ng g5 hz.2) (iZ_ng g6 g7)
    (by rw [iZ_toInt (by omega), iZ_toInt (by omega)]; omega)
    (by rw [iZ_toInt (by omega), iZ_toInt (by omega)]; show ¬ _ > ((arrV G.2.2.2.1.2.2.2.1 (dL I o2).toNat (fun j => .int ((fun i => iZ (I o2 i)) j))).slots.size : Int); rw [arrV_size]; omega)
    (fun vm₁ _ i hi => by
      rw [iZ_cN g6 g7] at hi
      have e : cs.slots.getD ((iZ sp).toNatClampNeg + i) .null = .int (iZ (I o1 (sp.toNat + i))) := by
        rw [iZ_cN g4 hz.1, Array.getD_eq_getD_getElem?, t6 _ (by omega)]
        rfl
      refine ⟨?_, ?_⟩
      · rw [e]; exact fitB (g10 i (by omega))
      · rw [e]; exact trivial)
    (g := F0 m pc ls (.int (iZ n) :: .int (iZ dp) :: .ref (kadr G o2) :: .int (iZ sp) :: .ref (kadr G o1) :: st)) rfl (by rw [hml, hl.1]) (rest := st) rfl (by rw [hb]; exact d) hR.1 (by show 2 * 0 + _ + _ ≤ _; omega)
  have e1 : copied cs (vp_cell G.2.2.2.1.2.2.2.1 ((dL I o2).toNat, (.inl (fun i => iZ (I o2 i))))) (iZ sp) (iZ dp) (iZ n) = vp_cell G.2.2.2.1.2.2.2.1 ((dL I o2).toNat, (.inl (va_cpy (fun i => iZ (I o1 i)) (fun i => iZ (I o2 i)) sp.toNat dp.toNat n.toNat))) := by
    unfold copied
    rw [iZ_cN g4 hz.1, iZ_cN g5 hz.2, iZ_cN g6 g7]
    exact va_copiedX (fun z => .int z) cs G.2.2.2.1.2.2.2.1 (fun i => iZ (I o1 i)) (fun i => iZ (I o2 i)) t6 (by omega)
  rw [e1] at X' step
  generalize hcell : vp_cell G.2.2.2.1.2.2.2.1 ((dL I o2).toNat, (.inl (va_cpy (fun i => iZ (I o1 i)) (fun i => iZ (I o2 i)) sp.toNat dp.toNat n.toNat))) = cN at X' step
  have hl1 : kadr G o2 < H.size := (Array.getElem?_eq_some_iff.mp hc1).1
  have hheap : ((T.setVm vm').setCell (kadr G o2) cN).heap = H.setIfInBounds (kadr G o2) cN := by rw [← hT]; rfl
  have oq : ∀ q : Nat, q ≠ kadr G o2 → (H.setIfInBounds (kadr G o2) cN)[q]? = H[q]? := fun q hq => by simp [Array.getElem?_setIfInBounds, Ne.symm hq]
  have eq1 : (H.setIfInBounds (kadr G o2) cN)[kadr G o2]? = some cN := by simp [Array.getElem?_setIfInBounds, hl1]
  obtain ⟨t, a1, b1⟩ := k k9 n9 hk9 hn9 _ _ ls (hP.upd (S' := (upr I o2 (va_cpy (I o1) (I o2) sp.toNat dp.toNat n.toNat), J)) hG hs2 (fun k' q => by first | rfl | exact upr_ne q) (fun k' q => by first | rfl | exact upr_ne q) (by simp) oq (by
      show (H.setIfInBounds (kadr G o2) _)[kadr G o2]? = some (vp_cell G.2.2.2.1.2.2.2.1 ((dL I o2).toNat, .inl (fun i => iZ ((upr I o2 (va_cpy (I o1) (I o2) sp.toNat dp.toNat n.toNat)) o2 i))))
      rw [eq1, upr_self, ← hcell]
      exact congrArg (fun f => some (vp_cell G.2.2.2.1.2.2.2.1 ((dL I o2).toNat, .inl f))) (funext fun i => by unfold va_cpy; split <;> rfl))) ⟨by simp; exact hS.1, fun q g1 g2 => by
      rw [oq q (fun e => g2 (by rw [e]; exact shK_low hG hne))]
      exact hS.2.1 q g1 g2, fun q hq => by
      rcases List.mem_append.mp hq with h | h
      · exact hS.2.2 q h
      · obtain ⟨z, -, hz⟩ := List.mem_map.mp h
        rw [← hz]
        exact shK_low hG hne⟩ hl _ hheap X'
  exact ⟨t, step t a1, b1⟩
theorem refQ_neg {ad : Nat → Nat} {z : Int} (h : z < 0) : refQ ad z = none := by unfold refQ; rw [if_pos h]
theorem refQ_pos {ad : Nat → Nat} {z : Int} (h : 0 ≤ z) : refQ ad z = some (ad z.toNat) := by unfold refQ; rw [if_neg (by omega)]
/-- rows of ints from a row of objects into another -/
theorem wy_copyO (C : Fr G X cc nL own ret Ts) (hW : KWx G) {o1 o2 index : Nat} {n : Int} (g : (dS I o1 = 3 ∧ dS I o2 = 3) ∧ (0 ≤ n ∧ n < 2147483648) ∧ (n ≤ dL I o1 ∧ n ≤ dL I o2) ∧ 0 < n ∧ ∀ j : Nat, (j : Int) < n → I o1 j < 0 ∨ dS I (I o1 j).toNat = 1)
    (hl9 : Cond.methodLink own index arraycopyName ∈ Ts) (hnat9 : Cond.native arraycopyName ∈ Ts) (hst9 : Cond.static arraycopyName ∈ Ts) (hi9 : Cond.initialized "java/lang/System" ∈ Ts)
    (hR : 1 ≤ (KR X).frames ∧ (st.map fun v => v.category).sum + 60 ≤ (KR X).locals)
    (d : decode cc pc = .ok (.invokestatic index, 3)) (k : ∀ I2 : Ii, I2 = upr I o2 (va_cpy (I o1) (I o2) 0 0 n.toNat) → Wz G X nL Qs a b (pc + 3) lv st I2 J) : Wz G X nL Qs a b pc lv (.int (iZ n) :: .int (iZ 0) :: .ref (kadr G o2) :: .int (iZ 0) :: .ref (kadr G o1) :: st) I J := by
  have k := k _ rfl
  refine Wz.know (fun hsh hlt => ?_)
  obtain ⟨mi, hW⟩ := hW
  obtain ⟨p, e, R, s, m, args, below, meth, c⟩ := X
  obtain ⟨hx, hb, hml, hown, hts, hr, hlk, hKK, hG, hlo⟩ := C
  have hK := hKK.1
  intro k9 n9 hk9 hn9 H locs ls hP hS hl
  obtain ⟨⟨g1, g2⟩, ⟨g6, g7⟩, ⟨g8, g9⟩, g10, g11⟩ := g
  have hR : 1 ≤ R.frames ∧ (st.map fun v => v.category).sum + 60 ≤ R.locals := hR
  have hnw : nativeFrameWords "java/lang/System" "arraycopy" 5 + 11 ≤ 60 := by decide
  have hs1 := sK3 (G := G) (J := J) hsh hlt g1 (by omega)
  have hs2 := sK3 (G := G) (J := J) hsh hlt g2 (by omega)
  intro T hT X0
  have hc0 : H[kadr G o1]? = some (vp_cell G.2.2.2.1.2.2.2.2.1 ((dL I o1).toNat, .inr (.inr (.inr (.inr (fun i => refQ G.2.2.2.2 (I o1 i))))))) := hP.row hs1
  have hc1 : H[kadr G o2]? = some (vp_cell G.2.2.2.1.2.2.2.2.1 ((dL I o2).toNat, .inr (.inr (.inr (.inr (fun i => refQ G.2.2.2.2 (I o2 i))))))) := hP.row hs2
  have hne : shK G (I, J) o2 ≠ none := by rw [show shK G (I, J) o2 = _ from hs2]; intro z; cases z
  obtain ⟨kA, comp, r1, r2, r3, -⟩ := (hK.2 4 _ rfl).2
  have hfI : s.vm.findClass "[I" = some G.2.2.2.1.1 := (hK.2 0 _ rfl).2
  obtain ⟨-, kI, hkI, -⟩ := (hK.2 0 _ rfl).1 0 (fun _ => .null)
  obtain ⟨kE, hkE, -⟩ := Vm.findClass_spec r3
  have z0 : (iZ 0).toNatClampNeg = 0 := rfl
  have z1 : (iZ 0).toInt = 0 := rfl
  have hge : ∀ i : Nat, i < n.toNat → (vp_cell G.2.2.2.1.2.2.2.2.1 ((dL I o1).toNat, .inr (.inr (.inr (.inr (fun i => refQ G.2.2.2.2 (I o1 i))))))).slots.getD i .null = va_rf (refQ G.2.2.2.2 (I o1 i)) := fun i hi => by
    rw [vp_cell_q]
    rw [Array.getD_eq_getD_getElem?, arrV_read _ _ (by omega)]
    rfl
  obtain ⟨vm', X', step⟩ := X0.arraycopy hx hown (hts _ hl9) (hts _ hnat9) (hts _ hst9) (hts _ hi9) (src := kadr G o1) (dst := kadr G o2) (cs := vp_cell G.2.2.2.1.2.2.2.2.1 ((dL I o1).toNat, .inr (.inr (.inr (.inr (fun i => refQ G.2.2.2.2 (I o1 i))))))) (cd := vp_cell G.2.2.2.1.2.2.2.2.1 ((dL I o2).toNat, .inr (.inr (.inr (.inr (fun i => refQ G.2.2.2.2 (I o2 i))))))) (srcPos := iZ 0) (destPos := iZ 0) (n := iZ n) (by rw [hT]; exact hc0) (by rw [hT]; exact hc1)
    (fun _ h => by cases h) (fun _ h => by cases h) (fun h => by cases h) (fun h => by cases h) r1 r1 r2 r2 (by simp [refKind]) (by decide) (by decide) (iZ_ng g6 g7)
    (by rw [iZ_toInt (z := n) (by omega), z1, vp_cell_q, arrV_size]; omega)
    (by rw [iZ_toInt (z := n) (by omega), z1, vp_cell_q, arrV_size]; omega)
    (fun vm₁ hal i hi => by
      rw [iZ_cN g6 g7] at hi
      rw [z0, Nat.zero_add, hge i hi]
      rcases g11 i (by omega) with q | q
      · rw [refQ_neg q]
        exact ⟨rfl, trivial⟩
      · by_cases q0 : I o1 i < 0
        · rw [refQ_neg q0]
          exact ⟨rfl, trivial⟩
        · rw [refQ_pos (by omega)]
          refine ⟨rfl, ?_⟩
          have hrow : H[kadr G (I o1 i).toNat]? = some (vp_cell G.2.2.2.1.1 ((dL I (I o1 i).toNat).toNat, .inl (fun j => iZ (I (I o1 i).toNat j)))) := hP.row (sK1 hsh hlt q)
          have hcs : (Cond.castable "[I" "java/lang/Object").before args (s.setVm vm₁) = true := by
            rw [Cond.castable_setVm hal]
            exact va_Nw.use (A := args) rfl (hW s hKK.2.2.1).2.2.2.2.1.2.2.1
          obtain ⟨c1, c2, f1, f2, f3⟩ := Cond.castable_spec hcs
          have f1 : vm₁.findClass "[I" = some c1 := f1
          have f2 : vm₁.findClass "java/lang/Object" = some c2 := f2
          rw [hal.findClass] at f1 f2
          cases hfI.symm.trans f1
          cases r3.symm.trans f2
          obtain ⟨kI', hkI', -⟩ := hal.2.2 _ _ hkI
          obtain ⟨kE', hkE', -⟩ := hal.2.2 _ _ hkE
          exact ⟨vp_cell G.2.2.2.1.1 ((dL I (I o1 i).toNat).toNat, .inl (fun j => iZ (I (I o1 i).toNat j))), (by rw [show (T.setVm vm₁).heap = H from hT]; exact hrow), (fun _ h => by cases h), ⟨_, hkI'⟩, ⟨_, hkE'⟩, f3⟩)
    (g := F0 m pc ls (.int (iZ n) :: .int (iZ 0) :: .ref (kadr G o2) :: .int (iZ 0) :: .ref (kadr G o1) :: st)) rfl (by rw [hml, hl.1]) (rest := st) rfl (by rw [hb]; exact d) hR.1 (by show 2 * 0 + _ + _ ≤ _; omega)
  have e1 : copied (vp_cell G.2.2.2.1.2.2.2.2.1 ((dL I o1).toNat, .inr (.inr (.inr (.inr (fun i => refQ G.2.2.2.2 (I o1 i))))))) (vp_cell G.2.2.2.1.2.2.2.2.1 ((dL I o2).toNat, .inr (.inr (.inr (.inr (fun i => refQ G.2.2.2.2 (I o2 i))))))) (iZ 0) (iZ 0) (iZ n) = vp_cell G.2.2.2.1.2.2.2.2.1 ((dL I o2).toNat, .inr (.inr (.inr (.inr (va_cpy (fun i => refQ G.2.2.2.2 (I o1 i)) (fun i => refQ G.2.2.2.2 (I o2 i)) 0 0 n.toNat))))) := by
    unfold copied
    rw [z0, iZ_cN g6 g7, vp_cell_q, vp_cell_q, vp_cell_q]
    exact va_copiedX va_rf _ G.2.2.2.1.2.2.2.2.1 (fun i => refQ G.2.2.2.2 (I o1 i)) (fun i => refQ G.2.2.2.2 (I o2 i)) (n0 := (dL I o1).toNat) (fun j hj => arrV_read _ _ hj) (by omega)
  rw [e1] at X' step
  generalize hcell : vp_cell G.2.2.2.1.2.2.2.2.1 ((dL I o2).toNat, .inr (.inr (.inr (.inr (va_cpy (fun i => refQ G.2.2.2.2 (I o1 i)) (fun i => refQ G.2.2.2.2 (I o2 i)) 0 0 n.toNat))))) = cN at X' step
  have hl1 : kadr G o2 < H.size := (Array.getElem?_eq_some_iff.mp hc1).1
  have hheap : ((T.setVm vm').setCell (kadr G o2) cN).heap = H.setIfInBounds (kadr G o2) cN := by rw [← hT]; rfl
  have oq : ∀ q : Nat, q ≠ kadr G o2 → (H.setIfInBounds (kadr G o2) cN)[q]? = H[q]? := fun q hq => by simp [Array.getElem?_setIfInBounds, Ne.symm hq]
  have eq1 : (H.setIfInBounds (kadr G o2) cN)[kadr G o2]? = some cN := by simp [Array.getElem?_setIfInBounds, hl1]
  obtain ⟨t, a1, b1⟩ := k k9 n9 hk9 hn9 _ _ ls (hP.upd (S' := (upr I o2 (va_cpy (I o1) (I o2) 0 0 n.toNat), J)) hG hs2 (fun k' q => by first | rfl | exact upr_ne q) (fun k' q => by first | rfl | exact upr_ne q) (by simp) oq (by
      show (H.setIfInBounds (kadr G o2) _)[kadr G o2]? = some (vp_cell G.2.2.2.1.2.2.2.2.1 ((dL I o2).toNat, .inr (.inr (.inr (.inr (fun i => refQ G.2.2.2.2 ((upr I o2 (va_cpy (I o1) (I o2) 0 0 n.toNat)) o2 i)))))))
      rw [eq1, upr_self, ← hcell]
      exact congrArg (fun f => some (vp_cell G.2.2.2.1.2.2.2.2.1 ((dL I o2).toNat, .inr (.inr (.inr (.inr f)))))) (funext fun i => by unfold va_cpy; split <;> rfl))) ⟨by simp; exact hS.1, fun q g1 g2 => by
      rw [oq q (fun e => g2 (by rw [e]; exact shK_low hG hne))]
      exact hS.2.1 q g1 g2, fun q hq => by
      rcases List.mem_append.mp hq with h | h
      · exact hS.2.2 q h
      · obtain ⟨z, -, hz⟩ := List.mem_map.mp h
        rw [← hz]
        exact shK_low hG hne⟩ hl _ hheap X'
  exact ⟨t, step t a1, b1⟩
/-- bytes once more -/
theorem wy_cloneB (C : Fr G X cc nL own ret Ts) (hW : KWx G) {o index : Nat} (B : Nat) (g : (dS I o = 2 ∧ 1022 ≤ o) ∧ (dL I o ≤ (B : Int) ∧ I 999 0 < 900000) ∧ ∀ j : Nat, (j : Int) < dL I o → 0 ≤ I o j ∧ I o j < 128)
    (hlink : Cond.methodLink own index ⟨"[B", "clone", "()Ljava/lang/Object;"⟩ ∈ Ts) (hsame : Cond.sameMethod "[B" "java/lang/Object" "clone" "()Ljava/lang/Object;" ∈ Ts)
    (hnat : Cond.native ⟨"java/lang/Object", "clone", "()Ljava/lang/Object;"⟩ ∈ Ts) (hinst : Cond.instanceMethod ⟨"java/lang/Object", "clone", "()Ljava/lang/Object;"⟩ ∈ Ts)
    (hsel : Cond.selects "[B" ⟨"[B", "clone", "()Ljava/lang/Object;"⟩ ⟨"java/lang/Object", "clone", "()Ljava/lang/Object;"⟩ ∈ Ts)
    (hR : 1 ≤ (KR X).frames ∧ (st.map fun v => v.category).sum + 14 ≤ (KR X).locals) (d : decode cc pc = .ok (.invokevirtual index, 3)) (ha : 1 + a' = a) (hb9 : B + b' = b) (k : ∀ I2 : Ii, I2 = nwI I 2 (dL I o) (I o) → Wz G X nL Qs a' b' (pc + 3) lv (.ref (kadr G (I 999 0).toNat) :: st) I2 J) : Wz G X nL Qs a b pc lv (.ref (kadr G o) :: st) I J := by
  have k := k _ rfl
  refine Wz.know (fun hsh hlt => ?_)
  obtain ⟨mi, hW⟩ := hW
  obtain ⟨p, e, R, s, m, args, below, meth, c⟩ := X
  obtain ⟨hx, hb, hml, hown, hts, hr, hlk, hKK, hG, hlo⟩ := C
  have hK := hKK.1
  intro k9 n9 hk9 hn9 H locs ls hP hS hl
  have hR : 1 ≤ R.frames ∧ (st.map fun v => v.category).sum + 14 ≤ R.locals := hR
  have hb8 : 0 ≤ dL I o ∧ dL I o ≤ 100000 := dL_b hsh g.1.2 (by rw [g.1.1]; decide)
  have hs2 : sRG G (I, J) o 3 (dL I o).toNat := sK2 g.1.1 g.1.2
  have hnm : s.vm.findClass "[B" = some G.2.2.2.1.2.2.2.1 := (hK.2 3 _ rfl).2
  have hrow : H[kadr G o]? = some (vp_cell G.2.2.2.1.2.2.2.1 ((dL I o).toNat, (.inl (fun i => iZ (I o i))))) := hP.row hs2
  obtain ⟨c0, t0', f1, f2, f3⟩ := Cond.castable_spec (va_Nw.use (A := args) rfl (hW s hKK.2.2.1).2.2.2.2.1.2.2.2.1)
  cases hnm.symm.trans f1
  obtain ⟨-, kS, hkS, compS, hkindS⟩ := (hK.2 3 _ rfl).1 0 (fun _ => .null)
  generalize hcc : vp_cell G.2.2.2.1.2.2.2.1 ((dL I o).toNat, (.inl (fun i => iZ (I o i)))) = cl at hrow
  have hsz : cl.slots.size = (dL I o).toNat := by rw [← hcc]; exact arrV_size _ _ _
  have hvm0 : cl.vm = .none := by rw [← hcc]; rfl
  have hcl0 : cl.cls = G.2.2.2.1.2.2.2.1 := by rw [← hcc]; rfl
  have hcellE : ({ cls := cl.cls, slots := cl.slots } : Cell) = cl := by rw [← hcc]; rfl
  intro T hT X0
  have hcellT : T.heap[kadr G o]? = some cl := by rw [hT]; exact hrow
  obtain ⟨-, kA, hkA, comp, hkind⟩ := State.isArrayOf_alike X0.warmed.alike ((hK.2 3 _ rfl).1 0 (fun _ => .null))
  obtain ⟨vm', X', stp⟩ := X0.cloneArray hx hown (hts _ hlink) (hts _ hsame) (hts _ hnat) (hts _ hinst) (hts _ hsel) (a := kadr G o) (cell := cl) hcellT (fun k h => by rw [hvm0] at h; cases h) (by rw [hvm0]; exact fun h => by cases h) (by rw [hcl0]; exact hnm) f2 (by rw [hcl0]; exact f3)
    (fun i v hv => by
      rw [hcl0]
      have hk' : T.vm.classes[G.2.2.2.1.2.2.2.1]? = some kA := hkA
      have hfit : fits .byte v = true := by
        rw [← hcc] at hv
        have hv : (arrV G.2.2.2.1.2.2.2.1 (dL I o).toNat (fun j => .int (iZ (I o j)))).slots[i]? = some v := hv
        exact va_fit (fun i hi => fitB (g.2.2 i (by omega))) i v hv
      simpa [State.fitsSlot, State.slotType?, hk', hkind] using hfit)
    (g := F0 m pc ls (.ref (kadr G o) :: st)) rfl (by rw [hml]; exact hl.1) rfl (by rw [hb]; exact d) hR.1 (by show 2 * 0 + _ + 14 ≤ _; omega) (by omega) (by rw [hsz]; omega) (hloader := by rw [hcl0]; exact Vm.clonesLoader_of_array hkS hkindS)
  rw [hcellE, hsz] at X'
  generalize hH1 : H.push cl = H1
  have z1 : H1.size = H.size + 1 := by rw [← hH1, Array.size_push]
  have e1 : H1[H.size]? = some cl := by rw [← hH1, Array.getElem?_push_size]
  have o1 : ∀ q : Nat, q < H.size → H1[q]? = H[q]? := fun q hq => by rw [← hH1, Array.getElem?_push, if_neg (Nat.ne_of_lt hq)]
  have hpush := hP.push (t := 2) (z := dL I o) (d := I o) (sh := .inr (3, (dL I o).toNat)) hG g.2.1.2 hb8 z1 o1 (by decide) (by rw [dsh_2 nwI_s.1]; show some (Sum.inr (3, (nwI I 2 (dL I o) (I o) (1000000 + (I 999 0).toNat) 1).toNat)) = _; rw [nwI_s.2]) (by
    show H1[H.size]? = some (vp_cell G.2.2.2.1.2.2.2.1 ((dL I o).toNat, .inl (fun i => iZ (nwI I 2 (dL I o) (I o) (I 999 0).toNat i))))
    rw [e1, nwI_k hP.2.1.2.2.2.1, ← hcc])
  rw [← hpush.2] at k
  obtain ⟨t, b1, b2⟩ := k (k9 + 1) (n9 + (dL I o).toNat) (by omega) (by omega) H1 locs ls hpush.1 ⟨Nat.le_trans hS.1 (by rw [z1]; omega), fun q h1 h2 => by rw [o1 q (Nat.lt_of_lt_of_le h1 hS.1)]; exact hS.2.1 q h1 h2, hS.2.2⟩ hl ((T.setVm vm').pushCell cl) (by rw [← hH1, ← hT]; rfl) X'
  refine ⟨t, stp t ?_, b2⟩
  rw [hcellE, hT]
  exact b1
end WYE
/-- n rows of k ints, one behind another -/
def mnR (k : Int) : Nat → Ii → Ii
  | 0, I => I
  | n + 1, I => nwI (mnR k n I) 1 k (fun _ => 0)
theorem mnR_9 (k : Int) (I : Ii) : ∀ n : Nat, mnR k n I 999 0 = I 999 0 + n
  | 0 => by show I 999 0 = I 999 0 + ((0 : Nat) : Int); omega
  | n + 1 => by
    show nwI (mnR k n I) 1 k (fun _ => 0) 999 0 = _
    rw [nwI_9, mnR_9 k I n]
    omega
theorem ext_size {F : Heap} {h : Nat} (hh : h ≤ F.size) : (F.extract 0 h).size = h := by rw [Array.size_extract]; omega
theorem ext_get {F : Heap} {h q : Nat} (hq : q < h) : (F.extract 0 h)[q]? = F[q]? := by
  rw [Array.getElem?_extract]
  by_cases c : q < F.size
  · rw [if_pos (by omega), Nat.zero_add]
  · rw [if_neg (by omega), Array.getElem?_eq_none (by omega)]
theorem Pic.rows {G : KG} {J : Jj} {F : Heap} {k : Int} {I : Ii} {h0 : Nat} (hG : Kok G) (hk : 0 ≤ k ∧ k ≤ 100000) (hP : Pic G (I, J) (F.extract 0 h0)) : ∀ n : Nat, h0 + n ≤ F.size → I 999 0 + n ≤ 900000 → (∀ j : Nat, j < n → F[h0 + j]? = some (vp_cell G.2.2.2.1.1 (k.toNat, .inl (fun _ => iZ 0)))) → Pic G (mnR k n I, J) (F.extract 0 (h0 + n))
  | 0, _, _, _ => hP
  | n + 1, h1, h2, h3 => by
    have ih := Pic.rows hG hk hP n (by omega) (by omega) (fun j hj => h3 j (by omega))
    have e9 := mnR_9 k I n
    have z0 : (F.extract 0 (h0 + n)).size = h0 + n := ext_size (by omega)
    refine (ih.push (H1 := F.extract 0 (h0 + (n + 1))) (t := 1) (z := k) (d := fun _ => 0) (sh := .inr (0, k.toNat)) hG (by rw [e9]; omega) hk (by rw [z0, ext_size h1]; omega) (fun q hq => ?_) (by decide) (by rw [dsh_1 nwI_s.1]; show some (Sum.inr (0, (nwI (mnR k n I) 1 k (fun _ => 0) (1000000 + (mnR k n I 999 0).toNat) 1).toNat)) = _; rw [nwI_s.2]) ?_).1
    · rw [z0] at hq
      rw [ext_get hq, ext_get (by omega)]
    · show (F.extract 0 (h0 + (n + 1)))[(F.extract 0 (h0 + n)).size]? = some (vp_cell G.2.2.2.1.1 (k.toNat, .inl (fun i => iZ (nwI (mnR k n I) 1 k (fun _ => 0) (mnR k n I 999 0).toNat i))))
      rw [z0, ext_get (by omega), h3 n (by omega), nwI_k (by rw [e9]; have := hP.2.1.2.2.2.1; have : 1022 ≤ I 999 0 := this; omega)]
theorem vr_outer (c : ClassId) (N h0 : Nat) : ∀ i : Nat, Jvm.Free.Multi.outerC c N h0 i = arrV c N (fun j => va_rf (if j < i then some (h0 + 1 + j) else none))
  | 0 => by
    show ({ cls := c, slots := Array.replicate N .null, vm := .none } : Cell) = _
    rw [arrV_new]
    refine congrArg (arrV c N) (funext fun j => ?_)
    simp [va_rf]
  | i + 1 => by
    show (Jvm.Free.Multi.outerC c N h0 i).setSlot i (.ref (h0 + 1 + i)) = _
    rw [vr_outer c N h0 i, arrV_store]
    refine congrArg (arrV c N) (funext fun j => ?_)
    by_cases e : j = i
    · subst e
      simp [updV, va_rf]
    · by_cases h : j < i
      · simp [updV, e, h, Nat.lt_succ_of_lt h]
      · simp [updV, e, h, show ¬ j < i + 1 by omega]
section WYM
variable {G : KG} {X : KX} {nL : Nat} {Qs : State → Prop} {a b a' b' pc : Nat} {lv : List (Option Value)} {st : List Value} {I : Ii} {J : Jj} {cc : ByteArray} {own : String} {ret : Option FieldType} {Ts : List Cond} {Q : Option Value → Sg → Prop}
/-- new int[n][k] -/
theorem wy_mna (C : Fr G X cc nL own ret Ts) (hW : KWx G) {n k : Int} {idx : Nat} (B : Nat) (g : ((0 ≤ n ∧ n ≤ (B : Int)) ∧ (0 ≤ k ∧ k ≤ (B : Int))) ∧ I 999 0 < 800000) (hB : B ≤ 1000) (hw : Cond.classLink own idx "[[I" ∈ Ts) (hw2 : Cond.arrayClass .int ∈ Ts) (d : decode cc pc = .ok (.multianewarray idx 2, 4)) (ha : (1 + B) + a' = a) (hb9 : (B + B * B) + b' = b) (kk : ∀ I2 : Ii, I2 = mnR k n.toNat (nwI I 4 n (fun i => if (i : Int) < n then I 999 0 + 1 + i else -1)) → Wz G X nL Qs a' b' (pc + 4) lv (.ref (kadr G (I 999 0).toNat) :: st) I2 J) : Wz G X nL Qs a b pc lv (.int (iZ k) :: .int (iZ n) :: st) I J := by
  have kk := kk _ rfl
  obtain ⟨mi, hW⟩ := hW
  obtain ⟨p, e, R, s, m, args, below, meth, c⟩ := X
  obtain ⟨hx, hb, hml, hown, hts, hr, hlk, hKK, hG, hlo⟩ := C
  have hK := hKK.1
  intro k9 n9 hk9 hn9 H locs ls hP hS hl
  obtain ⟨⟨⟨g1, g2⟩, g3, g4⟩, g5⟩ := g
  have en : (iZ n).toNatClampNeg = n.toNat := iZ_cN g1 (by omega)
  have ek : (iZ k).toNatClampNeg = k.toNat := iZ_cN g3 (by omega)
  have hnB : n.toNat ≤ B := by omega
  have hkB : k.toNat ≤ B := by omega
  have hmul : n.toNat * k.toNat ≤ B * B := Nat.mul_le_mul hnB hkB
  intro T hT Xs
  have h22 : 1022 ≤ I 999 0 := hP.2.1.2.2.2.1
  obtain ⟨vm₁, cA, comp, -, fA, fC, hO, -, X', step⟩ := Xs.multianewarray2F hx hown (hts _ hw) (wAOA.use (hW s hKK.2.2.1).2.2.2.2.1.2.1) (hts _ hw2) (g := F0 m pc ls (.int (iZ k) :: .int (iZ n) :: st)) rfl (by rw [hb]; exact d) rfl (iZ_ng g1 (by omega)) (iZ_ng g3 (by omega)) (by rw [en]; omega) (by rw [ek]; show k.toNat * 4 ≤ _; omega) (by rw [ek]; omega) rfl rfl (by rw [en]; omega) (by rw [en, ek]; omega)
  rw [en, ek] at X' step
  have eA : cA = G.2.2.2.1.2.2.2.2.2 := Option.some.inj (fA.symm.trans (hK.2 5 _ rfl).2)
  have eC : comp = G.2.2.2.1.1 := Option.some.inj (fC.symm.trans (hK.2 0 _ rfl).2)
  subst eA
  subst eC
  have hTh : (T.setVm vm₁).heap = H := hT
  obtain ⟨f1, f2, -, -⟩ := Jvm.Free.Multi.fill_facts (T.setVm vm₁) G.2.2.2.1.2.2.2.2.2 G.2.2.2.1.1 n.toNat k.toNat (defaultValue .int) n.toNat
  have f3 := fun (x : Nat) (hx : x < (T.setVm vm₁).heap.size) => Jvm.Free.Multi.fill_old (T.setVm vm₁) G.2.2.2.1.2.2.2.2.2 G.2.2.2.1.1 n.toNat k.toNat (defaultValue .int) (a := x) hx n.toNat
  have f4 := Jvm.Free.Multi.fill_inner (T.setVm vm₁) G.2.2.2.1.2.2.2.2.2 G.2.2.2.1.1 n.toNat k.toNat (defaultValue .int) n.toNat
  generalize Jvm.Free.Multi.fill (T.setVm vm₁) G.2.2.2.1.2.2.2.2.2 G.2.2.2.1.1 n.toNat k.toNat (defaultValue .int) n.toNat = F at f1 f2 f3 f4 X' step
  rw [hTh] at f1 f2 f3 f4
  rw [vr_outer] at f2
  have p1 : (H.size : Int) + 1000 = (G.2.1 : Int) + I 999 0 := hP.1
  have z0 : (F.heap.extract 0 (H.size + 1)).size = H.size + 1 := ext_size (by rw [f1]; omega)
  have hout : Pic G (nwI I 4 n (fun i => if (i : Int) < n then I 999 0 + 1 + i else -1), J) (F.heap.extract 0 (H.size + 1)) ∧ H.size = kadr G (I 999 0).toNat := by
    refine hP.push (t := 4) (z := n) (d := fun i => if (i : Int) < n then I 999 0 + 1 + i else -1) (sh := .inr (5, n.toNat)) hG (by omega) ⟨g1, by omega⟩ z0 (fun q hq => by rw [ext_get (by omega)]; exact f3 q hq) (by decide) (by rw [dsh_4 nwI_s.1]; show some (Sum.inr (5, (nwI I 4 n (fun i => if (i : Int) < n then I 999 0 + 1 + i else -1) (1000000 + (I 999 0).toNat) 1).toNat)) = _; rw [nwI_s.2]) ?_
    show (F.heap.extract 0 (H.size + 1))[H.size]? = some (vp_cell G.2.2.2.1.2.2.2.2.2 (n.toNat, .inr (.inr (.inr (.inr (fun i => refQ G.2.2.2.2 (nwI I 4 n (fun i => if (i : Int) < n then I 999 0 + 1 + i else -1) (I 999 0).toNat i)))))))
    rw [ext_get (by omega), f2, nwI_k h22, vp_cell_q]
    refine congrArg some (congrArg (arrV _ _) (funext fun j => congrArg va_rf ?_))
    by_cases c1 : j < n.toNat
    · rw [if_pos c1, if_pos (by omega), refQ_pos (by omega)]
      have := hG.1 (I 999 0 + 1 + (j : Int)).toNat (by omega)
      exact congrArg some (by show H.size + 1 + j = kadr G _; omega)
    · rw [if_neg c1, if_neg (by omega), refQ_neg (by omega)]
  have hall := Pic.rows (F := F.heap) (k := k) hG ⟨g3, by omega⟩ hout.1 n.toNat (by rw [f1]; omega) (by rw [nwI_9]; omega) (fun j hj => by
    rw [f4 j hj]
    show some (Jvm.Free.Multi.innerC G.2.2.2.1.1 k.toNat (.int 0)) = some (arrV G.2.2.2.1.1 k.toNat (fun _ => .int (iZ 0)))
    exact congrArg some (arrV_new _ _ _))
  have efull : F.heap.extract 0 (H.size + 1 + n.toNat) = F.heap := by
    rw [← f1]
    exact Array.extract_size
  rw [efull] at hall
  rw [← hout.2] at kk
  obtain ⟨t, b1, b2⟩ := kk (k9 + 1 + n.toNat) (n9 + n.toNat + n.toNat * k.toNat) (by omega) (by omega) F.heap locs ls hall ⟨Nat.le_trans hS.1 (by rw [f1]; omega), fun q h1 h2 => by rw [f3 q (Nat.lt_of_lt_of_le h1 hS.1)]; exact hS.2.1 q h1 h2, hS.2.2⟩ hl F rfl X'
  refine ⟨t, step t ?_, b2⟩
  rw [show T.heap.size = H.size by rw [hT]]
  exact b1
end WYM
