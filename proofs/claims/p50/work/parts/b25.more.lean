/-! ===== a field under the name of a class that inherits it ===== -/
def FLs (Ts : List Cond) (own : String) (idx ci i : Nat) (ref : String) : Prop := ∃ (C : String) (T : u_T) (N : Nat) (ty : Nat → FieldType), vwCl[ci]? = some (C, T, N) ∧ i < N ∧ (∀ w ∈ u_ws C T N, w ∈ Ts) ∧ (Cond.fieldLink own idx ref (T i).2.1 (T i).2.2.1 ∈ Ts ∧ Cond.sameField ref (T i).1 (T i).2.1 (T i).2.2.1 ∈ Ts) ∧ (∀ k, k < N → parseFieldDescriptor (T k).2.2.1 = some (ty k)) ∧ (∀ a, a < N → ∀ b, b < N → a ≠ b → (T a).2.1 ≠ (T b).2.1)
theorem fls {Ts : List Cond} {own : String} {idx : Nat} {C : String} {T : u_T} {N : Nat} {ty : Nat → FieldType} (ci i : Nat) (ref : String) (hc : vwCl[ci]? = some (C, T, N)) (hty : ∀ k, k < N → parseFieldDescriptor (T k).2.2.1 = some (ty k)) (hnm : ∀ a, a < N → ∀ b, b < N → a ≠ b → (T a).2.1 ≠ (T b).2.1) (hin : ∀ w ∈ u_ws C T N, w ∈ Ts) (hi : i < N) (hw : Cond.fieldLink own idx ref (T i).2.1 (T i).2.2.1 ∈ Ts) (hw2 : Cond.sameField ref (T i).1 (T i).2.1 (T i).2.2.1 ∈ Ts) : FLs Ts own idx ci i ref := ⟨C, T, N, ty, hc, hi, hin, ⟨hw, hw2⟩, hty, hnm⟩
section WMS
variable {G : KG} {X : KX} {nL : Nat} {Qs : State → Prop} {a b pc : Nat} {lv : List (Option Value)} {st : List Value} {S : Sg} {cc : ByteArray} {own : String} {ret : Option FieldType} {Ts : List Cond}
theorem wm_getS (C : Fr G X cc nL own ret Ts) {idx ci o i : Nat} {ref : String} (f : FLs Ts own idx ci i ref) (hs : sOG G S o i ci 0) (d : decode cc pc = .ok (.getfield idx, 3)) (k : Wm G X nL Qs a b (pc + 3) lv (.int (iZ (S.1 o i)) :: st) S) : Wm G X nL Qs a b pc lv (.ref (kadr G o) :: st) S := by
  obtain ⟨p, e, R, s, m, args, below, meth, c⟩ := X
  obtain ⟨hx, hb, hml, hown, hts, hr, hlk, hKK, hG, hlo⟩ := C
  have hK := hKK.1
  intro k9 n9 hk9 hn9 H locs ls hP hS hl
  obtain ⟨Cn, T, N, ty, hc, hi, hin, ⟨hw, hw2⟩, hty, hnm⟩ := f
  obtain ⟨ks, h1, h2, h3⟩ := hP.obj hs
  have hP1 : va_P G.2.2.1 vwCl [(kadr G o, .inr (ci, ks.mapIdx (fun i kd => fldv G.2.2.2.2 S o i kd)))] H := by
    intro k q hq
    cases k with
    | zero => cases hq; exact h3
    | succ k => simp at hq
  exact va_get (D := G.2.2.1) (cl := vwCl) (v := .int (iZ (S.1 o i))) hx hb hts hin hown hK hP1 0 rfl hc i hi (hts _ hw) (fun x9 h9 => u_same (hts _ hw2) x9 h9) (by rw [List.getElem?_mapIdx, h2]; rfl) d (k k9 n9 hk9 hn9 H locs ls hP hS hl)
theorem wm_putS (C : Fr G X cc nL own ret Ts) {idx ci o i : Nat} {x : Int} {ref : String} (f : FLs Ts own idx ci i ref) (hs : sOG G S o i ci 0) (hfin : ∀ C T N, vwCl[ci]? = some (C, T, N) → (T i).2.2.2 = false) (hfit : ∀ C T N, vwCl[ci]? = some (C, T, N) → ∃ ty, parseFieldDescriptor (T i).2.2.1 = some ty ∧ narrow ty (.int (iZ x)) = .int (iZ x) ∧ fits ty (.int (iZ x)) = true) (d : decode cc pc = .ok (.putfield idx, 3)) (k : Wm G X nL Qs a b (pc + 3) lv st (up2 S.1 o i x, S.2)) : Wm G X nL Qs a b pc lv (.int (iZ x) :: .ref (kadr G o) :: st) S := by
  obtain ⟨p, e, R, s, m, args, below, meth, c⟩ := X
  obtain ⟨hx, hb, hml, hown, hts, hr, hlk, hKK, hG, hlo⟩ := C
  have hK := hKK.1
  intro k9 n9 hk9 hn9 H locs ls hP hS hl
  obtain ⟨Cn, T, N, ty, hc, hi, hin, ⟨hw, hw2⟩, hty, hnm⟩ := f
  obtain ⟨ks, h1, h2, h3⟩ := hP.obj hs
  have hfin := hfin _ _ _ hc
  obtain ⟨fty, hd, hnar, hfit⟩ := hfit _ _ _ hc
  have hap := va_apart (own := own) hts hin ty hty hnm hK hc
  obtain ⟨r, g1, cell, q1, q2, q3, q4⟩ := h3
  have hr9 : r = (Cn, T, N) := Option.some.inj (g1.symm.trans hc)
  subst hr9
  obtain ⟨hSl, hfc, kC, hkC, hkind⟩ := hK.1 ci _ hc
  obtain ⟨cf, kf, fi, f, hif, hsl⟩ := hSl i hi
  have hlay := hts _ (hin _ (u_in_lay hi))
  unfold u_lay at hlay
  rw [if_neg (by rw [hfin]; decide)] at hlay
  have hst := (u_facts hfc hkC (u_lays hts hin hi) hif).1
  have h6 := u_store hfc hkC hkind hlay hif hd hnar hfit
  have hlen : i < (ks.mapIdx (fun i9 kd => fldv G.2.2.2.2 S o i9 kd)).length := by rw [List.length_mapIdx]; exact (List.getElem?_eq_some_iff.mp h2).1
  refine W.putK hx hb (f := f) ⟨hown, hts _ hw, ⟨_, _, _, u_same (hts _ hw2) _ hif⟩, hst⟩ (by rw [q2]; exact h6) q1 q3 (by rw [hsl]; exact k2_hasslot (q4 i hi)) rfl rfl d fun H' e1 e2 e3 => ?_
  rw [hsl] at e1 ⊢
  refine k k9 n9 hk9 hn9 H' _ ls (hP.upd (S' := (up2 S.1 o i x, S.2)) hG h1 (fun k' q => by first | rfl | exact up2_key q) (fun k' q => by first | rfl | exact up2_key q) e2 e3 ?_) (hS.put e2 e3 (shK_low hG (by rw [h1]; intro z; cases z))) hl
  have hset : (ks.mapIdx (fun i9 kd => fldv G.2.2.2.2 S o i9 kd)).set i (.int (iZ x)) = ks.mapIdx (fun i9 kd => fldv G.2.2.2.2 (up2 S.1 o i x, S.2) o i9 kd) := mapIdx_set (S := S) (S' := (up2 S.1 o i x, S.2)) (ad := G.2.2.2.2) (k := o) (v := .int (iZ x)) h2 (by show Value.int (iZ (up2 _ o i x o i)) = _; rw [up2_self]) (fun j kd' q => fldv_other (by first | rfl | exact up2_ne (fun z => q z.2)) (by first | rfl | exact up2_ne (fun z => q z.2)))
  show va_at G.2.2.1 vwCl (kadr G o, .inr (ci, ks.mapIdx (fun i9 kd => fldv G.2.2.2.2 _ o i9 kd))) H'
  rw [← hset]
  exact ⟨_, hc, t_OB.to (V := updV (vp_V (ks.mapIdx (fun i9 kd => fldv G.2.2.2.2 S o i9 kd))) i (.int (iZ x))) ⟨_, e1, q2, q3, t_set q4 hap hi (.int (iZ x))⟩ (fun j _ => vp_updV_set hlen (.int (iZ x)) j)⟩
end WMS
section WYS
variable {G : KG} {X : KX} {nL : Nat} {Qs : State → Prop} {a b pc : Nat} {lv : List (Option Value)} {st : List Value} {I : Ii} {J : Jj} {cc : ByteArray} {own : String} {ret : Option FieldType} {Ts : List Cond}
theorem wy_getS (C : Fr G X cc nL own ret Ts) {idx ci o i : Nat} {ref : String} (f : FLs Ts own idx ci i ref) (hs : sOG G (I, J) o i ci 0) (d : decode cc pc = .ok (.getfield idx, 3)) (k : Wz G X nL Qs a b (pc + 3) lv (.int (iZ (I o i)) :: st) I J) : Wz G X nL Qs a b pc lv (.ref (kadr G o) :: st) I J := wm_getS (S := (I, J)) C f hs d k
theorem wy_putS (C : Fr G X cc nL own ret Ts) {idx ci o i : Nat} {x : Int} {ref : String} (f : FLs Ts own idx ci i ref) (fp : FPk ci i .int) (hs : sOG G (I, J) o i ci 0) (d : decode cc pc = .ok (.putfield idx, 3)) (k : ∀ I2 : Ii, I2 = up2 I o i x → Wz G X nL Qs a b (pc + 3) lv st I2 J) : Wz G X nL Qs a b pc lv (.int (iZ x) :: .ref (kadr G o) :: st) I J :=
  wm_putS (S := (I, J)) C f hs (fun C9 T N h => (fp C9 T N h).1) (fun C9 T N h => ⟨.int, (fp C9 T N h).2, rfl, rfl⟩) d (k _ rfl)
end WYS
/-! ===== more rules: a quotient of what is below 0; copies of rows of ints; the script's numbers ===== -/
section WYG
variable {G : KG} {X : KX} {nL : Nat} {Qs : State → Prop} {a b pc : Nat} {lv : List (Option Value)} {st : List Value} {I : Ii} {J : Jj} {cc : ByteArray} {own : String} {ret : Option FieldType} {Ts : List Cond}
theorem wy_getB2 (C : Fr G X cc nL own ret Ts) {idx o : Nat} (f : FLk Ts own idx 1 2) (g : dS I o = 6) (d : decode cc pc = .ok (.getfield idx, 3)) (k : Wz G X nL Qs a b (pc + 3) lv (.int (iZ (I o 2)) :: st) I J) : Wz G X nL Qs a b pc lv (.ref (kadr G o) :: st) I J :=
  Wz.know (fun hs hl => wz_getI C rfl f (sB_2 hs hl g) d k)
theorem iZ_divN {x : Int} (g : -2147483648 < x ∧ x ≤ 0) : iZ x / iZ 100 = iZ (-((-x) / 100)) := by
  apply Int32.toInt_inj.mp
  rw [Int32.toInt_div, iZ_toInt (z := x) (by omega), iZ_toInt (z := 100) (by omega), iZ_toInt (z := -((-x) / 100)) (by omega)]
  have e : x.tdiv 100 = -((-x) / 100) := by
    have h1 : x = -(-x) := by omega
    rw [h1, Int.neg_tdiv, Int.tdiv_eq_ediv_of_nonneg (by omega)]
    omega
  rw [e]
  exact Int.bmod_eq_of_le (by omega) (by omega)
theorem wy_idivN (C : Fr G X cc nL own ret Ts) {x : Int} (g : -2147483648 < x ∧ x ≤ 0) (d : decode cc pc = .ok (.idiv, 1)) (k : Wz G X nL Qs a b (pc + 1) lv (.int (iZ (-((-x) / 100))) :: st) I J) : Wz G X nL Qs a b pc lv (.int (iZ 100) :: .int (iZ x) :: st) I J := by
  refine wm_idiv (S := (I, J)) C (by decide) d ?_
  rw [iZ_divN g]
  exact k
theorem wy_copyDD (C : Fr G X cc nL own ret Ts) {o1 o2 index : Nat} {sp dp n : Int} (g : (dS I o1 = 1 ∧ dS I o2 = 1) ∧ ((((0 : Int) ≤ sp ∧ (0 : Int) ≤ dp) ∧ ((0 : Int) ≤ n ∧ n < 2147483648)) ∧ (sp + n ≤ dL I o1 ∧ dp + n ≤ dL I o2))) (hl9 : Cond.methodLink own index arraycopyName ∈ Ts) (hn9 : Cond.native arraycopyName ∈ Ts) (hst9 : Cond.static arraycopyName ∈ Ts) (hi9 : Cond.initialized "java/lang/System" ∈ Ts)
    (hR : 1 ≤ (KR X).frames ∧ (st.map fun v => v.category).sum + 60 ≤ (KR X).locals)
    (d : decode cc pc = .ok (.invokestatic index, 3)) (k : ∀ I2 : Ii, I2 = upr I o2 (va_cpy (I o1) (I o2) sp.toNat dp.toNat n.toNat) → Wz G X nL Qs a b (pc + 3) lv st I2 J) : Wz G X nL Qs a b pc lv (.int (iZ n) :: .int (iZ dp) :: .ref (kadr G o2) :: .int (iZ sp) :: .ref (kadr G o1) :: st) I J := by
  refine Wz.know (fun hs hl => ?_)
  have h1 := dL_b hs (dS_1 hs hl g.1.1 (Or.inl rfl)) (by rw [g.1.1]; decide)
  have h2 := dL_b hs (dS_1 hs hl g.1.2 (Or.inl rfl)) (by rw [g.1.2]; decide)
  have hnw : nativeFrameWords "java/lang/System" "arraycopy" 5 + 11 ≤ 60 := by decide
  exact wd_copyI C (sK1 hs hl g.1.1) (sK1 hs hl g.1.2) hl9 hn9 hst9 hi9 ⟨g.2.1, by omega, by omega⟩ (by omega) (by omega) ⟨hR.1, by have := hR.2; omega⟩ d k
theorem wy_copyWD (C : Fr G X cc nL own ret Ts) {o1 n1 o2 index : Nat} {sp dp n : Int} (hs1 : sRG G (I, J) o1 0 n1) (g : dS I o2 = 1 ∧ ((((0 : Int) ≤ sp ∧ (0 : Int) ≤ dp) ∧ ((0 : Int) ≤ n ∧ n < 2147483648)) ∧ (sp + n ≤ (n1 : Int) ∧ dp + n ≤ dL I o2))) (hl9 : Cond.methodLink own index arraycopyName ∈ Ts) (hn9 : Cond.native arraycopyName ∈ Ts) (hst9 : Cond.static arraycopyName ∈ Ts) (hi9 : Cond.initialized "java/lang/System" ∈ Ts)
    (hR : 1 ≤ (KR X).frames ∧ (st.map fun v => v.category).sum + 60 ≤ (KR X).locals) (hn1 : n1 ≤ 2147483647 := by decide)
    (d : decode cc pc = .ok (.invokestatic index, 3)) (k : ∀ I2 : Ii, I2 = upr I o2 (va_cpy (I o1) (I o2) sp.toNat dp.toNat n.toNat) → Wz G X nL Qs a b (pc + 3) lv st I2 J) : Wz G X nL Qs a b pc lv (.int (iZ n) :: .int (iZ dp) :: .ref (kadr G o2) :: .int (iZ sp) :: .ref (kadr G o1) :: st) I J := by
  refine Wz.know (fun hs hl => ?_)
  have h2 := dL_b hs (dS_1 hs hl g.1 (Or.inl rfl)) (by rw [g.1]; decide)
  have hnw : nativeFrameWords "java/lang/System" "arraycopy" 5 + 11 ≤ 60 := by decide
  exact wd_copyI C hs1 (sK1 hs hl g.1) hl9 hn9 hst9 hi9 ⟨g.2.1, by omega, by omega⟩ hn1 (by omega) ⟨hR.1, by have := hR.2; omega⟩ d k
end WYG
