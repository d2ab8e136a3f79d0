/-! ===== rules for the predicate transformers, the machine's ===== -/
/-- fewer locals known -/
def lvLe : List (Option Value) → List (Option Value) → Prop
  | [], [] => True
  | none :: t, _ :: t' => lvLe t t'
  | some v :: t, o :: t' => o = some v ∧ lvLe t t'
  | _, _ => False
theorem lvLe_spec : ∀ {l l' : List (Option Value)}, lvLe l l' → l.length = l'.length ∧ ∀ (i : Nat) (v : Value), l[i]? = some (some v) → l'[i]? = some (some v)
  | [], [], _ => ⟨rfl, fun i v h => h⟩
  | none :: t, o :: t', h => by
    have ih := lvLe_spec (l := t) (l' := t') h
    refine ⟨by simp [ih.1], fun i v hv => ?_⟩
    cases i with
    | zero => simp at hv
    | succ i => exact ih.2 i v hv
  | some w :: t, o :: t', h => by
    have h' : o = some w ∧ lvLe t t' := h
    have ih := lvLe_spec (l := t) (l' := t') h'.2
    refine ⟨by simp [ih.1], fun i v hv => ?_⟩
    cases i with
    | zero => rw [h'.1]; exact hv
    | succ i => exact ih.2 i v hv
/-- a reference that may be null -/
def refO (G : KG) (o : Option Nat) : Value := match o with
  | none => .null
  | some k => .ref (kadr G k)
section WDR
variable {G : KG} {X : KX} {nL : Nat} {Qs : State → Prop} {a b pc : Nat} {lv : List (Option Value)} {st : List Value} {S : Sg} {I : Ii} {J : Jj} {cc : ByteArray} {own : String} {ret : Option FieldType} {Ts : List Cond}
theorem Wz.drop {lv' : List (Option Value)} (k : Wz G X nL Qs a b pc lv' st I J) (h : lvLe lv' lv) : Wz G X nL Qs a b pc lv st I J := by
  obtain ⟨p, e, R, s, m, args, below, meth, c⟩ := X
  intro k9 n9 hk9 hn9 H locs ls hP hS hl
  have hh := lvLe_spec h
  exact k k9 n9 hk9 hn9 H locs ls hP hS ⟨hl.1, hl.2.1, by rw [hh.1]; exact hl.2.2.1, fun i v q => hl.2.2.2 i v (hh.2 i v q)⟩
theorem wd_iand (C : Fr G X cc nL own ret Ts) {x y : Int} (d : decode cc pc = .ok (.iand, 1)) (k : Wz G X nL Qs a b (pc + 1) lv (.int (iZ (andZ x y)) :: st) I J) : Wz G X nL Qs a b pc lv (.int (iZ y) :: .int (iZ x) :: st) I J := wz_iandG C (iZ_back _).symm d k
theorem wd_ior (C : Fr G X cc nL own ret Ts) {x y : Int} (d : decode cc pc = .ok (.ior, 1)) (k : Wz G X nL Qs a b (pc + 1) lv (.int (iZ (orZ x y)) :: st) I J) : Wz G X nL Qs a b pc lv (.int (iZ y) :: .int (iZ x) :: st) I J := wz_iorG C (iZ_back _).symm d k
theorem wd_ixor (C : Fr G X cc nL own ret Ts) {x y : Int} (d : decode cc pc = .ok (.ixor, 1)) (k : Wz G X nL Qs a b (pc + 1) lv (.int (iZ (xorZ x y)) :: st) I J) : Wz G X nL Qs a b pc lv (.int (iZ y) :: .int (iZ x) :: st) I J := wz_ixorG C (iZ_back _).symm d k
theorem wd_ishl (C : Fr G X cc nL own ret Ts) {x y : Int} (d : decode cc pc = .ok (.ishl, 1)) (k : Wz G X nL Qs a b (pc + 1) lv (.int (iZ (shlZ x y)) :: st) I J) : Wz G X nL Qs a b pc lv (.int (iZ y) :: .int (iZ x) :: st) I J := wz_ishlG C (iZ_back _).symm d k
theorem wd_ishr (C : Fr G X cc nL own ret Ts) {x y : Int} (d : decode cc pc = .ok (.ishr, 1)) (k : Wz G X nL Qs a b (pc + 1) lv (.int (iZ (shrZ x y)) :: st) I J) : Wz G X nL Qs a b pc lv (.int (iZ y) :: .int (iZ x) :: st) I J := wz_ishrG C (iZ_back _).symm d k
theorem wd_iushr (C : Fr G X cc nL own ret Ts) {x y : Int} (d : decode cc pc = .ok (.iushr, 1)) (k : Wz G X nL Qs a b (pc + 1) lv (.int (iZ (ushrZ x y)) :: st) I J) : Wz G X nL Qs a b pc lv (.int (iZ y) :: .int (iZ x) :: st) I J := wz_iushrG C (iZ_back _).symm d k
theorem wd_lshl (C : Fr G X cc nL own ret Ts) {x : Int64} {y : Int} (d : decode cc pc = .ok (.lshl, 1)) (k : Wz G X nL Qs a b (pc + 1) lv (.long (shlL x y) :: st) I J) : Wz G X nL Qs a b pc lv (.int (iZ y) :: .long x :: st) I J := wz_lshl C rfl d k
theorem wd_lshr (C : Fr G X cc nL own ret Ts) {x : Int64} {y : Int} (d : decode cc pc = .ok (.lshr, 1)) (k : Wz G X nL Qs a b (pc + 1) lv (.long (shrL x y) :: st) I J) : Wz G X nL Qs a b pc lv (.int (iZ y) :: .long x :: st) I J := wz_lshr C rfl d k
theorem wd_lushr (C : Fr G X cc nL own ret Ts) {x : Int64} {y : Int} (d : decode cc pc = .ok (.lushr, 1)) (k : Wz G X nL Qs a b (pc + 1) lv (.long (ushrL x y) :: st) I J) : Wz G X nL Qs a b pc lv (.int (iZ y) :: .long x :: st) I J := wz_lushr C rfl d k
theorem wd_i2l (C : Fr G X cc nL own ret Ts) {x : Int} (d : decode cc pc = .ok (.i2l, 1)) (k : Wz G X nL Qs a b (pc + 1) lv (.long (i2lZ x) :: st) I J) : Wz G X nL Qs a b pc lv (.int (iZ x) :: st) I J := wm_i2l C d k
theorem wd_l2i (C : Fr G X cc nL own ret Ts) {x : Int64} (d : decode cc pc = .ok (.l2i, 1)) (k : Wz G X nL Qs a b (pc + 1) lv (.int (iZ (l2iZ x)) :: st) I J) : Wz G X nL Qs a b pc lv (.long x :: st) I J := wz_l2i C (iZ_back _).symm d k
theorem wd_lcmp (C : Fr G X cc nL own ret Ts) {x y : Int64} (d : decode cc pc = .ok (.lcmp, 1)) (k : Wz G X nL Qs a b (pc + 1) lv (.int (iZ (cmpL x y)) :: st) I J) : Wz G X nL Qs a b pc lv (.long y :: .long x :: st) I J := wm_lcmp C d (by rw [← iZ_back (lg_cmp x y)]; exact k)
theorem wd_idiv (C : Fr G X cc nL own ret Ts) {x y : Int} (g : (0 ≤ x ∧ x < 2147483648) ∧ (1 ≤ y ∧ y < 2147483648)) (d : decode cc pc = .ok (.idiv, 1)) (k : Wz G X nL Qs a b (pc + 1) lv (.int (iZ (x / y)) :: st) I J) : Wz G X nL Qs a b pc lv (.int (iZ y) :: .int (iZ x) :: st) I J := by
  have e : (((x.toNat / y.toNat : Nat)) : Int) = x / y := by rw [Int.natCast_ediv, Int.toNat_of_nonneg (by omega), Int.toNat_of_nonneg (by omega)]
  exact wz_idiv C x.toNat y.toNat (by omega) (by omega) (by omega) (by omega) (by omega) d (by rw [e]; exact k)
theorem wd_irem (C : Fr G X cc nL own ret Ts) {x y : Int} (g : (0 ≤ x ∧ x < 2147483648) ∧ (1 ≤ y ∧ y < 2147483648)) (d : decode cc pc = .ok (.irem, 1)) (k : Wz G X nL Qs a b (pc + 1) lv (.int (iZ (x % y)) :: st) I J) : Wz G X nL Qs a b pc lv (.int (iZ y) :: .int (iZ x) :: st) I J := by
  have e : (((x.toNat % y.toNat : Nat)) : Int) = x % y := by rw [Int.natCast_emod, Int.toNat_of_nonneg (by omega), Int.toNat_of_nonneg (by omega)]
  exact wz_irem C x.toNat y.toNat (by omega) (by omega) (by omega) (by omega) (by omega) d (by rw [e]; exact k)
theorem wd_putI (C : Fr G X cc nL own ret Ts) {idx ci o i : Nat} {x : Int} (f : FLk Ts own idx ci i) (fp : FPk ci i .int) (hs : sOG G (I, J) o i ci 0) (d : decode cc pc = .ok (.putfield idx, 3)) (k : ∀ I2 : Ii, I2 = up2 I o i x → Wz G X nL Qs a b (pc + 3) lv st I2 J) : Wz G X nL Qs a b pc lv (.int (iZ x) :: .ref (kadr G o) :: st) I J := wz_putI C f fp hs d (k _ rfl)
theorem wd_putZ (C : Fr G X cc nL own ret Ts) {idx ci o i : Nat} {x : Int} (f : FLk Ts own idx ci i) (fp : FPk ci i .boolean) (h0 : x = 0 ∨ x = 1) (hs : sOG G (I, J) o i ci 0) (d : decode cc pc = .ok (.putfield idx, 3)) (k : ∀ I2 : Ii, I2 = up2 I o i x → Wz G X nL Qs a b (pc + 3) lv st I2 J) : Wz G X nL Qs a b pc lv (.int (iZ x) :: .ref (kadr G o) :: st) I J := wz_putZ C f fp h0 hs d (k _ rfl)
theorem wd_putJ (C : Fr G X cc nL own ret Ts) {idx ci o i : Nat} {x : Int64} (f : FLk Ts own idx ci i) (fp : FPk ci i .long) (hs : sOG G (I, J) o i ci 1) (d : decode cc pc = .ok (.putfield idx, 3)) (k : ∀ J2 : Jj, J2 = up2 J o i x → Wz G X nL Qs a b (pc + 3) lv st I J2) : Wz G X nL Qs a b pc lv (.long x :: .ref (kadr G o) :: st) I J := wz_putJ C f fp hs d (k _ rfl)
theorem wd_iastore (C : Fr G X cc nL own ret Ts) {o n : Nat} {z x : Int} (i : Nat) (hs : sRG G (I, J) o 0 n) (hz : z = (i : Int)) (hi : i < n) (hn : n ≤ 2147483647) (d : decode cc pc = .ok (.iastore, 1)) (k : ∀ I2 : Ii, I2 = up2 I o i x → Wz G X nL Qs a b (pc + 1) lv st I2 J) : Wz G X nL Qs a b pc lv (.int (iZ x) :: .int (iZ z) :: .ref (kadr G o) :: st) I J := wz_iastore C i hs hz hi hn d (k _ rfl)
theorem wd_lastore (C : Fr G X cc nL own ret Ts) {o n : Nat} {z : Int} {x : Int64} (i : Nat) (hs : sRG G (I, J) o 1 n) (hz : z = (i : Int)) (hi : i < n) (hn : n ≤ 2147483647) (d : decode cc pc = .ok (.lastore, 1)) (k : ∀ J2 : Jj, J2 = up2 J o i x → Wz G X nL Qs a b (pc + 1) lv st I J2) : Wz G X nL Qs a b pc lv (.long x :: .int (iZ z) :: .ref (kadr G o) :: st) I J := wz_lastore C i hs hz hi hn d (k _ rfl)
theorem wd_lookupOut (C : Fr G X cc nL own ret Ts) {x : Int} {dflt off : Int} {ps : Array (Int × Int)} {len tgt : Nat} (r_x : -2147483648 ≤ x ∧ x < 2147483648) (d : decode cc pc = .ok (.lookupswitch dflt ps, len)) (hp : (ps.toList.zip (ps.toList.drop 1)).all (fun (a, next) => a.1 < next.1) = true) (ho : Op.lookupswitch.offset ps.toList dflt x = off) (ht : (pc : Int) + off = (tgt : Int)) (k : Wz G X nL Qs a b tgt lv st I J) : Wz G X nL Qs a b pc lv (.int (iZ x) :: st) I J := wm_lookup C d hp (by rw [iZ_toInt r_x]; exact ho) ht k
theorem wd_lookupIn (C : Fr G X cc nL own ret Ts) {x v : Int} {dflt off : Int} {ps : Array (Int × Int)} {len tgt : Nat} (hx : x = v) (d : decode cc pc = .ok (.lookupswitch dflt ps, len)) (hp : (ps.toList.zip (ps.toList.drop 1)).all (fun (a, next) => a.1 < next.1) = true) (r_v : -2147483648 ≤ v ∧ v < 2147483648) (ho : Op.lookupswitch.offset ps.toList dflt v = off) (ht : (pc : Int) + off = (tgt : Int)) (k : Wz G X nL Qs a b tgt lv st I J) : Wz G X nL Qs a b pc lv (.int (iZ x) :: st) I J := by subst hx; exact wd_lookupOut C r_v d hp ho ht k
theorem wm_copyI (C : Fr G X cc nL own ret Ts) {o1 n1 o2 n2 index : Nat} {sp dp n : Int32} (hs1 : sRG G S o1 0 n1) (hs2 : sRG G S o2 0 n2) (hl9 : Cond.methodLink own index arraycopyName ∈ Ts) (hnat9 : Cond.native arraycopyName ∈ Ts) (hst9 : Cond.static arraycopyName ∈ Ts) (hi9 : Cond.initialized "java/lang/System" ∈ Ts)
    (h1 : ¬ sp < 0) (h2 : ¬ dp < 0) (h3 : ¬ n < 0) (h4 : sp.toNatClampNeg + n.toNatClampNeg ≤ n1) (h5 : dp.toNatClampNeg + n.toNatClampNeg ≤ n2) (hR : 1 ≤ (KR X).frames ∧ (st.map fun v => v.category).sum + (nativeFrameWords "java/lang/System" "arraycopy" 5 + 11) ≤ (KR X).locals)
    (d : decode cc pc = .ok (.invokestatic index, 3)) (k : Wm G X nL Qs a b (pc + 3) lv st (upr S.1 o2 (va_cpy (S.1 o1) (S.1 o2) sp.toNatClampNeg dp.toNatClampNeg n.toNatClampNeg), S.2)) : Wm G X nL Qs a b pc lv (.int n :: .int dp :: .ref (kadr G o2) :: .int sp :: .ref (kadr G o1) :: st) S := by
  obtain ⟨p, e, R, s, m, args, below, meth, c⟩ := X
  obtain ⟨hx, hb, hml, hown, hts, hr, hlk, hKK, hG, hlo⟩ := C
  have hK := hKK.1
  intro k9 n9 hk9 hn9 H locs ls hP hS hl
  have nn : ∀ z : Int32, ¬ z < 0 → z.toInt = (z.toNatClampNeg : Int) := by
    intro z hz
    have hz0 : (0 : Int) ≤ z.toInt := by
      have := Int32.not_lt.mp hz
      simpa using Int32.le_iff_toInt_le.mp this
    show z.toInt = ((z.toInt.toNat : Nat) : Int)
    omega
  intro T hT X0
  have hc0 : H[kadr G o1]? = some (vp_cell G.2.2.2.1.1 (n1, (.inl (fun i => iZ (S.1 o1 i))))) := hP.row hs1
  have hc1 : H[kadr G o2]? = some (vp_cell G.2.2.2.1.1 (n2, (.inl (fun i => iZ (S.1 o2 i))))) := hP.row hs2
  have hne : shK G S o2 ≠ none := by rw [show shK G S o2 = _ from hs2]; intro z; cases z
  obtain ⟨-, k0, hk0, cm0, hkk0⟩ := (hK.2 0 _ rfl).1 n1 (fun j => .int ((fun i => iZ (S.1 o1 i)) j))
  obtain ⟨-, k1, hk1, cm1, hkk1⟩ := (hK.2 0 _ rfl).1 n2 (fun j => .int ((fun i => iZ (S.1 o2 i)) j))
  obtain ⟨vm', X', step⟩ := X0.arraycopy hx hown (hts _ hl9) (hts _ hnat9) (hts _ hst9) (hts _ hi9) (src := kadr G o1) (dst := kadr G o2) (cs := vp_cell G.2.2.2.1.1 (n1, (.inl (fun i => iZ (S.1 o1 i))))) (cd := vp_cell G.2.2.2.1.1 (n2, (.inl (fun i => iZ (S.1 o2 i))))) (srcPos := sp) (destPos := dp) (n := n) (by rw [hT]; exact hc0) (by rw [hT]; exact hc1)
    (fun _ h => by cases h) (fun _ h => by cases h) (fun h => by cases h) (fun h => by cases h) hk0 hk1 hkk0 hkk1 (by simp [refKind]) h1 h2 h3
    (by rw [nn sp h1, nn n h3]; show ¬ _ > ((arrV G.2.2.2.1.1 n1 (fun j => .int ((fun i => iZ (S.1 o1 i)) j))).slots.size : Int); rw [arrV_size]; omega)
    (by rw [nn dp h2, nn n h3]; show ¬ _ > ((arrV G.2.2.2.1.1 n2 (fun j => .int ((fun i => iZ (S.1 o2 i)) j))).slots.size : Int); rw [arrV_size]; omega)
    (fun vm₁ _ i hi => by
      have e : (vp_cell G.2.2.2.1.1 (n1, (.inl (fun i => iZ (S.1 o1 i))))).slots.getD (sp.toNatClampNeg + i) .null = .int ((fun i => iZ (S.1 o1 i)) (sp.toNatClampNeg + i)) := by
        show (arrV G.2.2.2.1.1 n1 (fun j => .int ((fun i => iZ (S.1 o1 i)) j))).slots.getD _ _ = _
        rw [Array.getD_eq_getD_getElem?, arrV_read _ _ (by omega)]
        rfl
      refine ⟨?_, ?_⟩
      · rw [e]; rfl
      · rw [e]; exact trivial)
    (g := F0 m pc ls (.int n :: .int dp :: .ref (kadr G o2) :: .int sp :: .ref (kadr G o1) :: st)) rfl (by rw [hml, hl.1]) (rest := st) rfl (by rw [hb]; exact d) hR.1 (by have := hR.2; show 2 * 0 + _ + _ ≤ _; exact (by have h6 : (st.map fun v => v.category).sum + (nativeFrameWords "java/lang/System" "arraycopy" 5 + 11) ≤ R.locals := hR.2; omega))
  have e1 : copied (vp_cell G.2.2.2.1.1 (n1, (.inl (fun i => iZ (S.1 o1 i))))) (vp_cell G.2.2.2.1.1 (n2, (.inl (fun i => iZ (S.1 o2 i))))) sp dp n = vp_cell G.2.2.2.1.1 (n2, (.inl (va_cpy (fun i => iZ (S.1 o1 i)) (fun i => iZ (S.1 o2 i)) sp.toNatClampNeg dp.toNatClampNeg n.toNatClampNeg))) := va_copied (fun z => .int z) G.2.2.2.1.1 G.2.2.2.1.1 (fun i => iZ (S.1 o1 i)) (fun i => iZ (S.1 o2 i)) h4
  rw [e1] at X' step
  have hl1 : kadr G o2 < H.size := (Array.getElem?_eq_some_iff.mp hc1).1
  have hheap : ((T.setVm vm').setCell (kadr G o2) (vp_cell G.2.2.2.1.1 (n2, (.inl (va_cpy (fun i => iZ (S.1 o1 i)) (fun i => iZ (S.1 o2 i)) sp.toNatClampNeg dp.toNatClampNeg n.toNatClampNeg))))).heap = H.setIfInBounds (kadr G o2) (vp_cell G.2.2.2.1.1 (n2, (.inl (va_cpy (fun i => iZ (S.1 o1 i)) (fun i => iZ (S.1 o2 i)) sp.toNatClampNeg dp.toNatClampNeg n.toNatClampNeg)))) := by rw [← hT]; rfl
  have oq : ∀ q : Nat, q ≠ kadr G o2 → (H.setIfInBounds (kadr G o2) (vp_cell G.2.2.2.1.1 (n2, (.inl (va_cpy (fun i => iZ (S.1 o1 i)) (fun i => iZ (S.1 o2 i)) sp.toNatClampNeg dp.toNatClampNeg n.toNatClampNeg)))))[q]? = H[q]? := fun q hq => by simp [Array.getElem?_setIfInBounds, Ne.symm hq]
  have eq1 : (H.setIfInBounds (kadr G o2) (vp_cell G.2.2.2.1.1 (n2, (.inl (va_cpy (fun i => iZ (S.1 o1 i)) (fun i => iZ (S.1 o2 i)) sp.toNatClampNeg dp.toNatClampNeg n.toNatClampNeg)))))[kadr G o2]? = some (vp_cell G.2.2.2.1.1 (n2, (.inl (va_cpy (fun i => iZ (S.1 o1 i)) (fun i => iZ (S.1 o2 i)) sp.toNatClampNeg dp.toNatClampNeg n.toNatClampNeg)))) := by simp [Array.getElem?_setIfInBounds, hl1]
  obtain ⟨t, a1, b1⟩ := k k9 n9 hk9 hn9 _ _ ls (hP.upd (S' := (upr S.1 o2 (va_cpy (S.1 o1) (S.1 o2) sp.toNatClampNeg dp.toNatClampNeg n.toNatClampNeg), S.2)) hG hs2 (fun k' q => by first | rfl | exact upr_ne q) (fun k' q => by first | rfl | exact upr_ne q) (by simp) oq (by
      show (H.setIfInBounds (kadr G o2) _)[kadr G o2]? = some (vp_cell G.2.2.2.1.1 (n2, .inl (fun i => iZ ((upr S.1 o2 (va_cpy (S.1 o1) (S.1 o2) sp.toNatClampNeg dp.toNatClampNeg n.toNatClampNeg)) o2 i))))
      rw [eq1, upr_self]
      exact congrArg (fun f => some (vp_cell G.2.2.2.1.1 (n2, .inl f))) (funext fun i => by unfold va_cpy; split <;> rfl))) ⟨by simp; exact hS.1, fun q g1 g2 => by
      rw [oq q (fun e => g2 (by rw [e]; exact shK_low hG hne))]
      exact hS.2.1 q g1 g2, fun q hq => by
      rcases List.mem_append.mp hq with h | h
      · exact hS.2.2 q h
      · obtain ⟨z, -, hz⟩ := List.mem_map.mp h
        rw [← hz]
        exact shK_low hG hne⟩ hl _ hheap X'
  exact ⟨t, step t a1, b1⟩

theorem wm_copyJ (C : Fr G X cc nL own ret Ts) {o1 n1 o2 n2 index : Nat} {sp dp n : Int32} (hs1 : sRG G S o1 1 n1) (hs2 : sRG G S o2 1 n2) (hl9 : Cond.methodLink own index arraycopyName ∈ Ts) (hnat9 : Cond.native arraycopyName ∈ Ts) (hst9 : Cond.static arraycopyName ∈ Ts) (hi9 : Cond.initialized "java/lang/System" ∈ Ts)
    (h1 : ¬ sp < 0) (h2 : ¬ dp < 0) (h3 : ¬ n < 0) (h4 : sp.toNatClampNeg + n.toNatClampNeg ≤ n1) (h5 : dp.toNatClampNeg + n.toNatClampNeg ≤ n2) (hR : 1 ≤ (KR X).frames ∧ (st.map fun v => v.category).sum + (nativeFrameWords "java/lang/System" "arraycopy" 5 + 11) ≤ (KR X).locals)
    (d : decode cc pc = .ok (.invokestatic index, 3)) (k : Wm G X nL Qs a b (pc + 3) lv st (S.1, upr S.2 o2 (va_cpy (S.2 o1) (S.2 o2) sp.toNatClampNeg dp.toNatClampNeg n.toNatClampNeg))) : Wm G X nL Qs a b pc lv (.int n :: .int dp :: .ref (kadr G o2) :: .int sp :: .ref (kadr G o1) :: st) S := by
  obtain ⟨p, e, R, s, m, args, below, meth, c⟩ := X
  obtain ⟨hx, hb, hml, hown, hts, hr, hlk, hKK, hG, hlo⟩ := C
  have hK := hKK.1
  intro k9 n9 hk9 hn9 H locs ls hP hS hl
  have nn : ∀ z : Int32, ¬ z < 0 → z.toInt = (z.toNatClampNeg : Int) := by
    intro z hz
    have hz0 : (0 : Int) ≤ z.toInt := by
      have := Int32.not_lt.mp hz
      simpa using Int32.le_iff_toInt_le.mp this
    show z.toInt = ((z.toInt.toNat : Nat) : Int)
    omega
  intro T hT X0
  have hc0 : H[kadr G o1]? = some (vp_cell G.2.2.2.1.2.1 (n1, (.inr (.inl (S.2 o1))))) := hP.row hs1
  have hc1 : H[kadr G o2]? = some (vp_cell G.2.2.2.1.2.1 (n2, (.inr (.inl (S.2 o2))))) := hP.row hs2
  have hne : shK G S o2 ≠ none := by rw [show shK G S o2 = _ from hs2]; intro z; cases z
  obtain ⟨-, k0, hk0, cm0, hkk0⟩ := (hK.2 1 _ rfl).1 n1 (fun j => .long ((S.2 o1) j))
  obtain ⟨-, k1, hk1, cm1, hkk1⟩ := (hK.2 1 _ rfl).1 n2 (fun j => .long ((S.2 o2) j))
  obtain ⟨vm', X', step⟩ := X0.arraycopy hx hown (hts _ hl9) (hts _ hnat9) (hts _ hst9) (hts _ hi9) (src := kadr G o1) (dst := kadr G o2) (cs := vp_cell G.2.2.2.1.2.1 (n1, (.inr (.inl (S.2 o1))))) (cd := vp_cell G.2.2.2.1.2.1 (n2, (.inr (.inl (S.2 o2))))) (srcPos := sp) (destPos := dp) (n := n) (by rw [hT]; exact hc0) (by rw [hT]; exact hc1)
    (fun _ h => by cases h) (fun _ h => by cases h) (fun h => by cases h) (fun h => by cases h) hk0 hk1 hkk0 hkk1 (by simp [refKind]) h1 h2 h3
    (by rw [nn sp h1, nn n h3]; show ¬ _ > ((arrV G.2.2.2.1.2.1 n1 (fun j => .long ((S.2 o1) j))).slots.size : Int); rw [arrV_size]; omega)
    (by rw [nn dp h2, nn n h3]; show ¬ _ > ((arrV G.2.2.2.1.2.1 n2 (fun j => .long ((S.2 o2) j))).slots.size : Int); rw [arrV_size]; omega)
    (fun vm₁ _ i hi => by
      have e : (vp_cell G.2.2.2.1.2.1 (n1, (.inr (.inl (S.2 o1))))).slots.getD (sp.toNatClampNeg + i) .null = .long ((S.2 o1) (sp.toNatClampNeg + i)) := by
        show (arrV G.2.2.2.1.2.1 n1 (fun j => .long ((S.2 o1) j))).slots.getD _ _ = _
        rw [Array.getD_eq_getD_getElem?, arrV_read _ _ (by omega)]
        rfl
      refine ⟨?_, ?_⟩
      · rw [e]; rfl
      · rw [e]; exact trivial)
    (g := F0 m pc ls (.int n :: .int dp :: .ref (kadr G o2) :: .int sp :: .ref (kadr G o1) :: st)) rfl (by rw [hml, hl.1]) (rest := st) rfl (by rw [hb]; exact d) hR.1 (by have := hR.2; show 2 * 0 + _ + _ ≤ _; exact (by have h6 : (st.map fun v => v.category).sum + (nativeFrameWords "java/lang/System" "arraycopy" 5 + 11) ≤ R.locals := hR.2; omega))
  have e1 : copied (vp_cell G.2.2.2.1.2.1 (n1, (.inr (.inl (S.2 o1))))) (vp_cell G.2.2.2.1.2.1 (n2, (.inr (.inl (S.2 o2))))) sp dp n = vp_cell G.2.2.2.1.2.1 (n2, (.inr (.inl (va_cpy (S.2 o1) (S.2 o2) sp.toNatClampNeg dp.toNatClampNeg n.toNatClampNeg)))) := va_copied (fun z => .long z) G.2.2.2.1.2.1 G.2.2.2.1.2.1 (S.2 o1) (S.2 o2) h4
  rw [e1] at X' step
  have hl1 : kadr G o2 < H.size := (Array.getElem?_eq_some_iff.mp hc1).1
  have hheap : ((T.setVm vm').setCell (kadr G o2) (vp_cell G.2.2.2.1.2.1 (n2, (.inr (.inl (va_cpy (S.2 o1) (S.2 o2) sp.toNatClampNeg dp.toNatClampNeg n.toNatClampNeg)))))).heap = H.setIfInBounds (kadr G o2) (vp_cell G.2.2.2.1.2.1 (n2, (.inr (.inl (va_cpy (S.2 o1) (S.2 o2) sp.toNatClampNeg dp.toNatClampNeg n.toNatClampNeg))))) := by rw [← hT]; rfl
  have oq : ∀ q : Nat, q ≠ kadr G o2 → (H.setIfInBounds (kadr G o2) (vp_cell G.2.2.2.1.2.1 (n2, (.inr (.inl (va_cpy (S.2 o1) (S.2 o2) sp.toNatClampNeg dp.toNatClampNeg n.toNatClampNeg))))))[q]? = H[q]? := fun q hq => by simp [Array.getElem?_setIfInBounds, Ne.symm hq]
  have eq1 : (H.setIfInBounds (kadr G o2) (vp_cell G.2.2.2.1.2.1 (n2, (.inr (.inl (va_cpy (S.2 o1) (S.2 o2) sp.toNatClampNeg dp.toNatClampNeg n.toNatClampNeg))))))[kadr G o2]? = some (vp_cell G.2.2.2.1.2.1 (n2, (.inr (.inl (va_cpy (S.2 o1) (S.2 o2) sp.toNatClampNeg dp.toNatClampNeg n.toNatClampNeg))))) := by simp [Array.getElem?_setIfInBounds, hl1]
  obtain ⟨t, a1, b1⟩ := k k9 n9 hk9 hn9 _ _ ls (hP.upd (S' := (S.1, upr S.2 o2 (va_cpy (S.2 o1) (S.2 o2) sp.toNatClampNeg dp.toNatClampNeg n.toNatClampNeg))) hG hs2 (fun k' q => by first | rfl | exact upr_ne q) (fun k' q => by first | rfl | exact upr_ne q) (by simp) oq (by
      show (H.setIfInBounds (kadr G o2) _)[kadr G o2]? = some (vp_cell G.2.2.2.1.2.1 (n2, .inr (.inl ((upr S.2 o2 (va_cpy (S.2 o1) (S.2 o2) sp.toNatClampNeg dp.toNatClampNeg n.toNatClampNeg)) o2))))
      rw [eq1, upr_self])) ⟨by simp; exact hS.1, fun q g1 g2 => by
      rw [oq q (fun e => g2 (by rw [e]; exact shK_low hG hne))]
      exact hS.2.1 q g1 g2, fun q hq => by
      rcases List.mem_append.mp hq with h | h
      · exact hS.2.2 q h
      · obtain ⟨z, -, hz⟩ := List.mem_map.mp h
        rw [← hz]
        exact shK_low hG hne⟩ hl _ hheap X'
  exact ⟨t, step t a1, b1⟩
theorem wd_copyI (C : Fr G X cc nL own ret Ts) {o1 n1 o2 n2 index : Nat} {sp dp n : Int} (hs1 : sRG G (I, J) o1 0 n1) (hs2 : sRG G (I, J) o2 0 n2) (hl9 : Cond.methodLink own index arraycopyName ∈ Ts) (hn9 : Cond.native arraycopyName ∈ Ts) (hst9 : Cond.static arraycopyName ∈ Ts) (hi9 : Cond.initialized "java/lang/System" ∈ Ts)
    (g : (((0 : Int) ≤ sp ∧ (0 : Int) ≤ dp) ∧ ((0 : Int) ≤ n ∧ n < 2147483648)) ∧ (sp + n ≤ (n1 : Int) ∧ dp + n ≤ (n2 : Int))) (hn1 : n1 ≤ 2147483647) (hn2 : n2 ≤ 2147483647) (hR : 1 ≤ (KR X).frames ∧ (st.map fun v => v.category).sum + (nativeFrameWords "java/lang/System" "arraycopy" 5 + 11) ≤ (KR X).locals)
    (d : decode cc pc = .ok (.invokestatic index, 3)) (k : ∀ I2 : Ii, I2 = upr I o2 (va_cpy (I o1) (I o2) sp.toNat dp.toNat n.toNat) → Wz G X nL Qs a b (pc + 3) lv st I2 J) : Wz G X nL Qs a b pc lv (.int (iZ n) :: .int (iZ dp) :: .ref (kadr G o2) :: .int (iZ sp) :: .ref (kadr G o1) :: st) I J := by
  have cl : ∀ z : Int, 0 ≤ z → z ≤ 2147483647 → (iZ z).toNatClampNeg = z.toNat := fun z h1 h2 => by
    show (iZ z).toInt.toNat = z.toNat
    rw [iZ_toInt (by omega)]
  have ng : ∀ z : Int, 0 ≤ z → z ≤ 2147483647 → ¬ iZ z < 0 := fun z h1 h2 q => by
    have := (iZ_lt (a := z) (b := 0) (by omega) (by omega)).mp (by rw [iZ_0]; exact q)
    omega
  refine wm_copyI (S := (I, J)) C hs1 hs2 hl9 hn9 hst9 hi9 (ng sp (by omega) (by omega)) (ng dp (by omega) (by omega)) (ng n (by omega) (by omega)) (by rw [cl sp (by omega) (by omega), cl n (by omega) (by omega)]; omega) (by rw [cl dp (by omega) (by omega), cl n (by omega) (by omega)]; omega) hR d ?_
  rw [cl sp (by omega) (by omega), cl dp (by omega) (by omega), cl n (by omega) (by omega)]
  exact k _ rfl
theorem wd_copyJ (C : Fr G X cc nL own ret Ts) {o1 n1 o2 n2 index : Nat} {sp dp n : Int} (hs1 : sRG G (I, J) o1 1 n1) (hs2 : sRG G (I, J) o2 1 n2) (hl9 : Cond.methodLink own index arraycopyName ∈ Ts) (hn9 : Cond.native arraycopyName ∈ Ts) (hst9 : Cond.static arraycopyName ∈ Ts) (hi9 : Cond.initialized "java/lang/System" ∈ Ts)
    (g : (((0 : Int) ≤ sp ∧ (0 : Int) ≤ dp) ∧ ((0 : Int) ≤ n ∧ n < 2147483648)) ∧ (sp + n ≤ (n1 : Int) ∧ dp + n ≤ (n2 : Int))) (hn1 : n1 ≤ 2147483647) (hn2 : n2 ≤ 2147483647) (hR : 1 ≤ (KR X).frames ∧ (st.map fun v => v.category).sum + (nativeFrameWords "java/lang/System" "arraycopy" 5 + 11) ≤ (KR X).locals)
    (d : decode cc pc = .ok (.invokestatic index, 3)) (k : ∀ J2 : Jj, J2 = upr J o2 (va_cpy (J o1) (J o2) sp.toNat dp.toNat n.toNat) → Wz G X nL Qs a b (pc + 3) lv st I J2) : Wz G X nL Qs a b pc lv (.int (iZ n) :: .int (iZ dp) :: .ref (kadr G o2) :: .int (iZ sp) :: .ref (kadr G o1) :: st) I J := by
  have cl : ∀ z : Int, 0 ≤ z → z ≤ 2147483647 → (iZ z).toNatClampNeg = z.toNat := fun z h1 h2 => by
    show (iZ z).toInt.toNat = z.toNat
    rw [iZ_toInt (by omega)]
  have ng : ∀ z : Int, 0 ≤ z → z ≤ 2147483647 → ¬ iZ z < 0 := fun z h1 h2 q => by
    have := (iZ_lt (a := z) (b := 0) (by omega) (by omega)).mp (by rw [iZ_0]; exact q)
    omega
  refine wm_copyJ (S := (I, J)) C hs1 hs2 hl9 hn9 hst9 hi9 (ng sp (by omega) (by omega)) (ng dp (by omega) (by omega)) (ng n (by omega) (by omega)) (by rw [cl sp (by omega) (by omega), cl n (by omega) (by omega)]; omega) (by rw [cl dp (by omega) (by omega), cl n (by omega) (by omega)]; omega) hR d ?_
  rw [cl sp (by omega) (by omega), cl dp (by omega) (by omega), cl n (by omega) (by omega)]
  exact k _ rfl
theorem wd_aconst_null (C : Fr G X cc nL own ret Ts) (d : decode cc pc = .ok (.aconst_null, 1)) (k : Wz G X nL Qs a b (pc + 1) lv (refO G none :: st) I J) : Wz G X nL Qs a b pc lv st I J := by
  obtain ⟨p, e, R, s, m, args, below, meth, c⟩ := X
  obtain ⟨hx, hb, hml, hown, hts, hr, hlk, hKK, hG, hlo⟩ := C
  intro k9 n9 hk9 hn9 H locs ls hP hS hl
  exact lv_null hx hb d (k k9 n9 hk9 hn9 H locs ls hP hS hl)
theorem wd_aload_n (C : Fr G X cc nL own ret Ts) {j : Fin 4} {i : Nat} {o : Option Nat} (hi : (j : Nat) = i) (h : lv[i]? = some (some (refO G o))) (d : decode cc pc = .ok (.aload_n j, 1)) (k : Wz G X nL Qs a b (pc + 1) lv (refO G o :: st) I J) : Wz G X nL Qs a b pc lv st I J := by
  obtain ⟨p, e, R, s, m, args, below, meth, c⟩ := X
  obtain ⟨hx, hb, hml, hown, hts, hr, hlk, hKK, hG, hlo⟩ := C
  intro k9 n9 hk9 hn9 H locs ls hP hS hl
  cases o with
  | none => exact lv_aload_nN hx hb d hi (hl.2.2.2 _ _ h) (k k9 n9 hk9 hn9 H locs ls hP hS hl)
  | some x => exact lv_aload_n hx hb d hi (hl.2.2.2 _ _ h) (k k9 n9 hk9 hn9 H locs ls hP hS hl)
theorem wd_astore_2 (C : Fr G X cc nL own ret Ts) {y0 y1 z : Option Value} {t : List (Option Value)} {o : Option Nat} (hn : nolong (y0 :: y1 :: z :: t) 2 = true) (d : decode cc pc = .ok (.astore_n 2, 1)) (k : Wz G X nL Qs a b (pc + 1) (y0 :: y1 :: some (refO G o) :: t) st I J) : Wz G X nL Qs a b pc (y0 :: y1 :: z :: t) (refO G o :: st) I J := by
  cases o with
  | some x => exact wz_astore_2 C hn d k
  | none =>
    obtain ⟨p, e, R, s, m, args, below, meth, c⟩ := X
    obtain ⟨hx, hb, hml, hown, hts, hr, hlk, hKK, hG, hlo⟩ := C
    intro k9 n9 hk9 hn9 H locs ls hP hS hl
    exact lv_astore_nN (lv := lvA 0 (y0 :: y1 :: z :: t)) (i := 2) hx hb d rfl hl.has (Nat.lt_of_lt_of_le (by simp) hl.2.2.1) rfl (fun ls' hl' => k k9 n9 hk9 hn9 H locs ls' hP hS (lvD.stored hl.2.2.1 (by simp) hn hl'))
theorem wd_ifnull (C : Fr G X cc nL own ret Ts) {o : Option Nat} {off : Int} {tgt : Nat} (d : decode cc pc = .ok (.ifnull off, 3)) (ht : (pc : Int) + off = (tgt : Int)) (k1 : o = none → Wz G X nL Qs a b tgt lv st I J) (k2 : ∀ k : Nat, o = some k → Wz G X nL Qs a b (pc + 3) lv st I J) : Wz G X nL Qs a b pc lv (refO G o :: st) I J := by
  cases o with
  | some x => exact wz_ifnull C d (k2 x rfl)
  | none =>
    obtain ⟨p, e, R, s, m, args, below, meth, c⟩ := X
    obtain ⟨hx, hb, hml, hown, hts, hr, hlk, hKK, hG, hlo⟩ := C
    intro k9 n9 hk9 hn9 H locs ls hP hS hl
    exact lv_ifnullN hx hb d ht (k1 rfl k9 n9 hk9 hn9 H locs ls hP hS hl)
theorem wd_ifnonnull (C : Fr G X cc nL own ret Ts) {o : Option Nat} {off : Int} {tgt : Nat} (d : decode cc pc = .ok (.ifnonnull off, 3)) (ht : (pc : Int) + off = (tgt : Int)) (k1 : o = none → Wz G X nL Qs a b (pc + 3) lv st I J) (k2 : ∀ k : Nat, o = some k → Wz G X nL Qs a b tgt lv st I J) : Wz G X nL Qs a b pc lv (refO G o :: st) I J := by
  obtain ⟨p, e, R, s, m, args, below, meth, c⟩ := X
  obtain ⟨hx, hb, hml, hown, hts, hr, hlk, hKK, hG, hlo⟩ := C
  intro k9 n9 hk9 hn9 H locs ls hP hS hl
  cases o with
  | some x => exact lv_ifnonnull hx hb d ht (k2 x rfl k9 n9 hk9 hn9 H locs ls hP hS hl)
  | none => exact lv_ifnonnullN hx hb d (k1 rfl k9 n9 hk9 hn9 H locs ls hP hS hl)
end WDR
/-- a boolean, and what holds behind -/
def QsB (P : Int → Ii → Jj → Prop) : Option Value → Sg → Prop := fun r S' => ∃ v : Int, r = some (.int (iZ v)) ∧ (v = 0 ∨ v = 1) ∧ P v S'.1 S'.2
/-- a long, and what holds behind -/
def QsJ (P : Int64 → Ii → Jj → Prop) : Option Value → Sg → Prop := fun r S' => ∃ v : Int64, r = some (.long v) ∧ P v S'.1 S'.2
/-- a reference that may be null, and what holds behind -/
def QsR (G : KG) (P : Option Nat → Ii → Jj → Prop) : Option Value → Sg → Prop := fun r S' => ∃ o : Option Nat, r = some (refO G o) ∧ P o S'.1 S'.2
section WDA
variable {G : KG} {X : KX} {nL : Nat} {a b pc : Nat} {lv : List (Option Value)} {I : Ii} {J : Jj} {cc : ByteArray} {own : String} {Ts : List Cond} {Q : Option Value → Sg → Prop}
theorem wd_aretS {cn : String} (C : Fr G X cc nL own (some (.object cn)) Ts) {q : Nat} (d : decode cc pc = .ok (.areturn, 1)) (hq : Q (some (refO G (some q))) (I, J)) : Wz G X nL (QsU G X Q) a b pc lv [.ref (kadr G q)] I J := wz_aret C d hq
theorem wd_aretN {cn : String} (C : Fr G X cc nL own (some (.object cn)) Ts) (d : decode cc pc = .ok (.areturn, 1)) (hq : Q (some (refO G none)) (I, J)) : Wz G X nL (QsU G X Q) a b pc lv [refO G none] I J := by
  obtain ⟨p, e, R, s, m, args, below, meth, c⟩ := X
  obtain ⟨hx, hb, hml, hown, hts, hr, hlk, hKK, hG, hlo⟩ := C
  intro k9 n9 hk9 hn9 H locs ls hP hS hl
  refine mq_widen (k2 := R.cells) (n2 := R.slots) (by omega) (by omega) ?_
  exact W.aret hx hb hr (Or.inl ⟨_, rfl⟩) (Or.inl rfl) (fun t ht hW => ⟨⟨_, (I, J), rfl, hq, by rw [ht]; exact hP⟩, hS.F ht⟩) hS.2.2 d hlk
end WDA
section WDC
variable {G : KG} {X : KX} {nL : Nat} {Qs : State → Prop} {a b pc : Nat} {lv : List (Option Value)} {st : List Value} {I : Ii} {J : Jj}
theorem kk_sB {P : Int → Ii → Jj → Prop} (k : ∀ (v : Int) (I2 : Ii) (J2 : Jj), (v = 0 ∨ v = 1) → P v I2 J2 → Wz G X nL Qs a b pc lv (.int (iZ v) :: st) I2 J2) : ∀ r S', QsB P r S' → Wm G X nL Qs a b pc lv (r.toList ++ st) S' := by
  rintro r S' ⟨v, rfl, h1, h⟩
  exact k v S'.1 S'.2 h1 h
theorem kk_sJ {P : Int64 → Ii → Jj → Prop} (k : ∀ (v : Int64) (I2 : Ii) (J2 : Jj), P v I2 J2 → Wz G X nL Qs a b pc lv (.long v :: st) I2 J2) : ∀ r S', QsJ P r S' → Wm G X nL Qs a b pc lv (r.toList ++ st) S' := by
  rintro r S' ⟨v, rfl, h⟩
  exact k v S'.1 S'.2 h
theorem kk_sR {P : Option Nat → Ii → Jj → Prop} (k : ∀ (v : Option Nat) (I2 : Ii) (J2 : Jj), P v I2 J2 → Wz G X nL Qs a b pc lv (refO G v :: st) I2 J2) : ∀ r S', QsR G P r S' → Wm G X nL Qs a b pc lv (r.toList ++ st) S' := by
  rintro r S' ⟨v, rfl, h⟩
  exact k v S'.1 S'.2 h
end WDC
