/-! ===== what calls make: rows, making, copying ===== -/
section WYA
variable {G : KG} {X : KX} {nL : Nat} {Qs : State → Prop} {a b a' b' pc : Nat} {lv : List (Option Value)} {st : List Value} {I : Ii} {J : Jj} {cc : ByteArray} {own : String} {ret : Option FieldType} {Ts : List Cond}
theorem iZ_ng {z : Int} (h0 : 0 ≤ z) (h1 : z < 2147483648) : ¬ iZ z < 0 := fun q => by
  have := (iZ_lt (a := z) (b := 0) (by omega) (by omega)).mp (by rw [iZ_0]; exact q)
  omega
theorem iZ_cN {z : Int} (h0 : 0 ≤ z) (h1 : z < 2147483648) : (iZ z).toNatClampNeg = z.toNat := by
  show (iZ z).toInt.toNat = _
  rw [iZ_toInt (by omega)]
theorem iZ_vp {z : Int} {n : Nat} (h0 : 0 ≤ z) (h1 : z < 2147483648) (h2 : z.toNat < n) : vp_in (iZ z) n := by
  rintro (q | q)
  · exact iZ_ng h0 h1 q
  · rw [iZ_cN h0 h1] at q; omega
/-- a row of ints, z at most B -/
theorem wy_newI (C : Fr G X cc nL own ret Ts) {z : Int} (B : Nat) (g : (0 ≤ z ∧ z ≤ (B : Int)) ∧ I 999 0 < 900000) (hB : B ≤ 100000) (hw : Cond.arrayClass .int ∈ Ts) (d : decode cc pc = .ok (.newarray .int, 2)) (ha : 1 + a' = a) (hb9 : B + b' = b) (k : ∀ I2 : Ii, I2 = nwI I 1 z (fun _ => 0) → Wz G X nL Qs a' b' (pc + 2) lv (.ref (kadr G (I 999 0).toNat) :: st) I2 J) : Wz G X nL Qs a b pc lv (.int (iZ z) :: st) I J := by
  have k := k _ rfl
  obtain ⟨p, e, R, s, m, args, below, meth, c⟩ := X
  obtain ⟨hx, hb, hml, hown, hts, hr, hlk, hKK, hG, hlo⟩ := C
  intro k9 n9 hk9 hn9 H locs ls hP hS hl
  have e0 : (iZ z).toInt = z := iZ_toInt (by omega)
  refine va_newaK (atype := .int) (N := z.toNat) hx hb (hts _ hw) rfl d rfl (iZ_ng g.1.1 (by omega)) (iZ_cN g.1.1 (by omega)) (by show z.toNat * 4 ≤ _; omega) (by omega) (by omega) rfl (fun H1 cA e1 z1 o1 hA hnm => ?_)
  have hc : cA = G.2.2.2.1.1 := by
    have := (hKK.1.2 0 _ rfl).2
    exact Option.some.inj (hnm.symm.trans this)
  subst hc
  have hpush := hP.push (t := 1) (z := z) (d := fun _ => 0) (sh := .inr (0, z.toNat)) hG g.2 ⟨g.1.1, by omega⟩ z1 o1 (by decide) (by rw [dsh_1 nwI_s.1]; show some (Sum.inr (0, (nwI I 1 z (fun _ => 0) (1000000 + (I 999 0).toNat) 1).toNat)) = _; rw [nwI_s.2]) (by
    show H1[H.size]? = some (vp_cell G.2.2.2.1.1 (z.toNat, .inl (fun i => iZ (nwI I 1 z (fun _ => 0) (I 999 0).toNat i))))
    rw [e1, nwI_k hP.2.1.2.2.2.1]
    rfl)
  rw [← hpush.2] at k
  exact k (k9 + 1) (n9 + z.toNat) (by omega) (by omega) H1 locs ls hpush.1 ⟨Nat.le_trans hS.1 (by rw [z1]; omega), fun q h1 h2 => by rw [o1 q (Nat.lt_of_lt_of_le h1 hS.1)]; exact hS.2.1 q h1 h2, hS.2.2⟩ hl
theorem wy_newB (C : Fr G X cc nL own ret Ts) {z : Int} (B : Nat) (g : (0 ≤ z ∧ z ≤ (B : Int)) ∧ I 999 0 < 900000) (hB : B ≤ 100000) (hw : Cond.arrayClass .byte ∈ Ts) (d : decode cc pc = .ok (.newarray .byte, 2)) (ha : 1 + a' = a) (hb9 : B + b' = b) (k : ∀ I2 : Ii, I2 = nwI I 2 z (fun _ => 0) → Wz G X nL Qs a' b' (pc + 2) lv (.ref (kadr G (I 999 0).toNat) :: st) I2 J) : Wz G X nL Qs a b pc lv (.int (iZ z) :: st) I J := by
  have k := k _ rfl
  obtain ⟨p, e, R, s, m, args, below, meth, c⟩ := X
  obtain ⟨hx, hb, hml, hown, hts, hr, hlk, hKK, hG, hlo⟩ := C
  intro k9 n9 hk9 hn9 H locs ls hP hS hl
  refine va_newaK (atype := .byte) (N := z.toNat) hx hb (hts _ hw) rfl d rfl (iZ_ng g.1.1 (by omega)) (iZ_cN g.1.1 (by omega)) (by show z.toNat * 1 ≤ _; omega) (by omega) (by omega) rfl (fun H1 cA e1 z1 o1 hA hnm => ?_)
  have hc : cA = G.2.2.2.1.2.2.2.1 := by
    have := (hKK.1.2 3 _ rfl).2
    exact Option.some.inj (hnm.symm.trans this)
  subst hc
  have hpush := hP.push (t := 2) (z := z) (d := fun _ => 0) (sh := .inr (3, z.toNat)) hG g.2 ⟨g.1.1, by omega⟩ z1 o1 (by decide) (by rw [dsh_2 nwI_s.1]; show some (Sum.inr (3, (nwI I 2 z (fun _ => 0) (1000000 + (I 999 0).toNat) 1).toNat)) = _; rw [nwI_s.2]) (by
    show H1[H.size]? = some (vp_cell G.2.2.2.1.2.2.2.1 (z.toNat, .inl (fun i => iZ (nwI I 2 z (fun _ => 0) (I 999 0).toNat i))))
    rw [e1, nwI_k hP.2.1.2.2.2.1]
    rfl)
  rw [← hpush.2] at k
  exact k (k9 + 1) (n9 + z.toNat) (by omega) (by omega) H1 locs ls hpush.1 ⟨Nat.le_trans hS.1 (by rw [z1]; omega), fun q h1 h2 => by rw [o1 q (Nat.lt_of_lt_of_le h1 hS.1)]; exact hS.2.1 q h1 h2, hS.2.2⟩ hl
/-- a row of objects -/
theorem wy_newO (C : Fr G X cc nL own ret Ts) (hW : KWx G) {z : Int} {idx : Nat} (B : Nat) (g : (0 ≤ z ∧ z ≤ (B : Int)) ∧ I 999 0 < 900000) (hB : B ≤ 100000) (hw : Cond.classLink own idx "java/lang/Object" ∈ Ts) (d : decode cc pc = .ok (.anewarray idx, 3)) (ha : 1 + a' = a) (hb9 : B + b' = b) (k : ∀ I2 : Ii, I2 = nwI I 3 z (fun _ => -1) → Wz G X nL Qs a' b' (pc + 3) lv (.ref (kadr G (I 999 0).toNat) :: st) I2 J) : Wz G X nL Qs a b pc lv (.int (iZ z) :: st) I J := by
  have k := k _ rfl
  obtain ⟨mi, hW⟩ := hW
  obtain ⟨p, e, R, s, m, args, below, meth, c⟩ := X
  obtain ⟨hx, hb, hml, hown, hts, hr, hlk, hKK, hG, hlo⟩ := C
  intro k9 n9 hk9 hn9 H locs ls hP hS hl
  have ec : (iZ z).toNatClampNeg = z.toNat := iZ_cN g.1.1 (by omega)
  refine W.anew hx hb hown (hts _ hw) (va_AO.use (hW s hKK.2.2.1).2.2.2.2.1.1) rfl d rfl (iZ_ng g.1.1 (by omega)) (by rw [ec]; omega) (by omega) (by rw [ec]; omega) (fun cA kA comp f1 f2 f3 f4 => ?_)
  have hc : cA = G.2.2.2.1.2.2.2.2.1 := by
    obtain ⟨_, _, _, _, _, h5⟩ := (hKK.1.2 4 _ rfl).2
    exact Option.some.inj (f1.symm.trans h5)
  subst hc
  rw [ec]
  generalize hH1 : H.push { cls := G.2.2.2.1.2.2.2.2.1, slots := Array.replicate z.toNat .null, vm := .none } = H1
  have z1 : H1.size = H.size + 1 := by rw [← hH1, Array.size_push]
  have e1 : H1[H.size]? = some { cls := G.2.2.2.1.2.2.2.2.1, slots := Array.replicate z.toNat .null, vm := .none } := by rw [← hH1, Array.getElem?_push_size]
  have o1 : ∀ q : Nat, q < H.size → H1[q]? = H[q]? := fun q hq => by rw [← hH1, Array.getElem?_push, if_neg (Nat.ne_of_lt hq)]
  have hpush := hP.push (t := 3) (z := z) (d := fun _ => -1) (sh := .inr (4, z.toNat)) hG g.2 ⟨g.1.1, by omega⟩ z1 o1 (by decide) (by rw [dsh_3 nwI_s.1]; show some (Sum.inr (4, (nwI I 3 z (fun _ => -1) (1000000 + (I 999 0).toNat) 1).toNat)) = _; rw [nwI_s.2]) (by
    show H1[H.size]? = some (vp_cell G.2.2.2.1.2.2.2.2.1 (z.toNat, .inr (.inr (.inr (.inr (fun i => refQ G.2.2.2.2 (nwI I 3 z (fun _ => -1) (I 999 0).toNat i)))))))
    rw [e1, nwI_k hP.2.1.2.2.2.1, vp_cell_q]
    exact congrArg some (arrV_new _ _ _))
  rw [← hpush.2] at k
  exact k (k9 + 1) (n9 + z.toNat) (by omega) (by omega) H1 locs ls hpush.1 ⟨Nat.le_trans hS.1 (by rw [z1]; omega), fun q h1 h2 => by rw [o1 q (Nat.lt_of_lt_of_le h1 hS.1)]; exact hS.2.1 q h1 h2, hS.2.2⟩ hl
/-- a text, a text under way -/
theorem wy_newC (C : Fr G X cc nL own ret Ts) {t : Int} {ci idx : Nat} {Cn : String} {T : u_T} (ht : (t = 5 ∧ ci = 0) ∨ (t = 6 ∧ ci = 1)) (ty : Nat → FieldType) (hc : vwCl[ci]? = some (Cn, T, 4)) (hin : ∀ w ∈ u_ws Cn T 4, w ∈ Ts) (hty : ∀ k, k < 4 → parseFieldDescriptor (T k).2.2.1 = some (ty k)) (h1 : Cond.classLink own idx Cn ∈ Ts) (h2 : Cond.instantiable Cn 4 ∈ Ts) (h3 : Cond.initialized Cn ∈ Ts) (hfs : ∀ j, j < 4 → defaultValue (ty j) = vp_V [.null, .int (iZ 0), .int (iZ 0), .int (iZ 0)] j) (g : I 999 0 < 900000) (d : decode cc pc = .ok (.new idx, 3)) (ha : 1 + a' = a) (hb9 : 4 + b' = b) (k : ∀ I2 : Ii, I2 = nwI I t 0 (fun i => if i = 0 then -1 else 0) → Wz G X nL Qs a' b' (pc + 3) lv (.ref (kadr G (I 999 0).toNat) :: st) I2 J) : Wz G X nL Qs a b pc lv st I J := by
  have k := k _ rfl
  obtain ⟨p, e, R, s, m, args, below, meth, c⟩ := X
  obtain ⟨hx, hb, hml, hown, hts, hr, hlk, hKK, hG, hlo⟩ := C
  intro k9 n9 hk9 hn9 H locs ls hP hS hl
  have hKn := hKK.1.1 ci _ hc
  refine W.newcK hx hb hown (hts _ h1) (hts _ h2) (hts _ h3) rfl d (by omega) (by omega) hKn.2.1 rfl fun H1 kC hkC e1 z1 o1 => ?_
  have hpush := hP.push (t := t) (z := 0) (d := fun i => if i = 0 then -1 else 0) (sh := .inl (ci, [5000, 0, 0, 0])) hG g ⟨by omega, by omega⟩ z1 o1 (by rcases ht with ⟨h, -⟩ | ⟨h, -⟩ <;> omega) (by
    rcases ht with ⟨rfl, rfl⟩ | ⟨rfl, rfl⟩
    · exact dsh_5 nwI_s.1
    · exact dsh_6 nwI_s.1) (by
    show va_at G.2.2.1 vwCl (H.size, .inr (ci, [5000, 0, 0, 0].mapIdx (fun i kd => fldv G.2.2.2.2 (nwI I t 0 (fun i => if i = 0 then -1 else 0), J) (I 999 0).toNat i kd))) H1
    have e9 : [5000, 0, 0, 0].mapIdx (fun i kd => fldv G.2.2.2.2 (nwI I t 0 (fun i => if i = 0 then -1 else 0), J) (I 999 0).toNat i kd) = [.null, .int (iZ 0), .int (iZ 0), .int (iZ 0)] := by
      have e8 := nwI_k (I := I) (t := t) (z := 0) (d := fun i => if i = 0 then -1 else 0) hP.2.1.2.2.2.1
      show [fldv G.2.2.2.2 (nwI I t 0 (fun i => if i = 0 then -1 else 0), J) (I 999 0).toNat 0 5000, Value.int (iZ (nwI I t 0 (fun i => if i = 0 then -1 else 0) (I 999 0).toNat 1)), Value.int (iZ (nwI I t 0 (fun i => if i = 0 then -1 else 0) (I 999 0).toNat 2)), Value.int (iZ (nwI I t 0 (fun i => if i = 0 then -1 else 0) (I 999 0).toNat 3))] = _
      rw [fldv_M]
      show [refZ G.2.2.2.2 (nwI I t 0 (fun i => if i = 0 then -1 else 0) (I 999 0).toNat 0), Value.int (iZ (nwI I t 0 (fun i => if i = 0 then -1 else 0) (I 999 0).toNat 1)), Value.int (iZ (nwI I t 0 (fun i => if i = 0 then -1 else 0) (I 999 0).toNat 2)), Value.int (iZ (nwI I t 0 (fun i => if i = 0 then -1 else 0) (I 999 0).toNat 3))] = _
      rw [e8]
      rfl
    rw [e9]
    exact ⟨_, hc, (u_born ty hts hin hKn hkC e1 hty).to hfs⟩)
  rw [← hpush.2] at k
  exact k (k9 + 1) (n9 + 4) (by omega) (by omega) H1 locs ls hpush.1 ⟨Nat.le_trans hS.1 (by rw [z1]; omega), fun q h1 h2 => by rw [o1 q (Nat.lt_of_lt_of_le h1 hS.1)]; exact hS.2.1 q h1 h2, hS.2.2⟩ hl
/-! ===== rows ===== -/
theorem wy_iald (C : Fr G X cc nL own ret Ts) {o : Nat} {z : Int} (g : dS I o = 1 ∧ 0 ≤ z ∧ z < dL I o) (d : decode cc pc = .ok (.iaload, 1)) (k : Wz G X nL Qs a b (pc + 1) lv (.int (iZ (I o z.toNat)) :: st) I J) : Wz G X nL Qs a b pc lv (.int (iZ z) :: .ref (kadr G o) :: st) I J := by
  refine Wz.know (fun hs hl => ?_)
  have hb := dL_b hs (dS_1 hs hl g.1 (Or.inl rfl)) (by rw [g.1]; decide)
  exact wz_iaload C z.toNat (n := (dL I o).toNat) (sK1 hs hl g.1) (by omega) (by omega) (by omega) rfl d k
theorem wy_iast (C : Fr G X cc nL own ret Ts) {o : Nat} {z x : Int} (g : dS I o = 1 ∧ 0 ≤ z ∧ z < dL I o) (d : decode cc pc = .ok (.iastore, 1)) (k : ∀ I2 : Ii, I2 = up2 I o z.toNat x → Wz G X nL Qs a b (pc + 1) lv st I2 J) : Wz G X nL Qs a b pc lv (.int (iZ x) :: .int (iZ z) :: .ref (kadr G o) :: st) I J := by
  refine Wz.know (fun hs hl => ?_)
  have hb := dL_b hs (dS_1 hs hl g.1 (Or.inl rfl)) (by rw [g.1]; decide)
  exact wz_iastore C z.toNat (n := (dL I o).toNat) (sK1 hs hl g.1) (by omega) (by omega) (by omega) d (k _ rfl)
theorem wy_alen1 (C : Fr G X cc nL own ret Ts) {o : Nat} (g : dS I o = 1) (d : decode cc pc = .ok (.arraylength, 1)) (k : Wz G X nL Qs a b (pc + 1) lv (.int (iZ (dL I o)) :: st) I J) : Wz G X nL Qs a b pc lv (.ref (kadr G o) :: st) I J := by
  refine Wz.know (fun hs hl => ?_)
  have hb := dL_b hs (dS_1 hs hl g (Or.inl rfl)) (by rw [g]; decide)
  have hb : 0 ≤ dL I o ∧ dL I o ≤ 100000 := hb
  refine wz_alen0 C (n := (dL I o).toNat) (sK1 hs hl g) d ?_
  rw [Int.toNat_of_nonneg hb.1]
  exact k
theorem wy_alen2 (C : Fr G X cc nL own ret Ts) (hW : KWx G) {o : Nat} (g : dS I o = 2 ∧ 0 ≤ dL I o) (d : decode cc pc = .ok (.arraylength, 1)) (k : Wz G X nL Qs a b (pc + 1) lv (.int (iZ (dL I o)) :: st) I J) : Wz G X nL Qs a b pc lv (.ref (kadr G o) :: st) I J := by
  obtain ⟨p, e, R, s, m, args, below, meth, c⟩ := X
  obtain ⟨hx, hb, hml, hown, hts, hr, hlk, hKK, hG, hlo⟩ := C
  intro k9 n9 hk9 hn9 H locs ls hP hS hl
  obtain ⟨cell, t1, t2, t3, -, t5, -⟩ := byt_of hW hKK hS hP g.1
  have t5 : cell.slots.size.toInt32 = Int32.ofNat (dL I o).toNat := t5
  have e9 : cell.slots.size.toInt32 = iZ (dL I o) := by
    rw [t5]
    show nI (dL I o).toNat = _
    rw [nI_iZ, Int.toNat_of_nonneg g.2]
  exact W.alen hx hb t1 t2 e9 rfl rfl d (k k9 n9 hk9 hn9 H locs ls hP hS hl)
/-- the length of a row of objects, the empty one too -/
theorem wy_alen3 (C : Fr G X cc nL own ret Ts) (hW : KWx G) {o : Nat} (g : dS I o = 3) (d : decode cc pc = .ok (.arraylength, 1)) (k : Wz G X nL Qs a b (pc + 1) lv (.int (iZ (dL I o)) :: st) I J) : Wz G X nL Qs a b pc lv (.ref (kadr G o) :: st) I J := by
  refine Wz.know (fun hs hl9 => ?_)
  obtain ⟨p, e, R, s, m, args, below, meth, c⟩ := X
  obtain ⟨hx, hb, hml, hown, hts, hr, hlk, hKK, hG, hlo⟩ := C
  intro k9 n9 hk9 hn9 H locs ls hP hS hl
  rcases dS_rg hs (k := o) (by rw [g]; decide) with c | c
  · obtain ⟨h1, h2, -⟩ := hl9 o c.1 c.2
    have e9 := lsort_3 (h1.symm.trans g)
    subst e9
    obtain ⟨mi, hW⟩ := hW
    have hT := (hW s hKK.2.2.1).2.2.2.1.2
    refine va_tlen hx hb hT hS (v := iZ (dL I 930)) ?_ d (k k9 n9 hk9 hn9 H locs ls hP hS hl)
    show Int32.ofNat 0 = iZ (I (1000000 + 930) 1)
    rw [h2]
    decide
  · have hb9 : 0 ≤ dL I o ∧ dL I o ≤ 100000 := dL_b hs c (by rw [g]; decide)
    have hrow : sRG G (I, J) o 4 (dL I o).toNat := (shK_d c).trans (dsh_3 g)
    exact va_alen (D := G.2.2.1) (cl := vwCl) (tys := ktys G) hx hb hKK.1 (va_P1 (hP.row hrow)) 0 4 rfl rfl (v := iZ (dL I o)) (by show Int32.ofNat (dL I o).toNat = _; rw [show Int32.ofNat (dL I o).toNat = nI (dL I o).toNat from rfl, nI_iZ, Int.toNat_of_nonneg hb9.1]) d (k k9 n9 hk9 hn9 H locs ls hP hS hl)
theorem wy_aald3 (C : Fr G X cc nL own ret Ts) {o : Nat} {z : Int} (g : dS I o = 3 ∧ (0 ≤ z ∧ z < dL I o) ∧ 0 ≤ I o z.toNat) (d : decode cc pc = .ok (.aaload, 1)) (k : Wz G X nL Qs a b (pc + 1) lv (.ref (kadr G (I o z.toNat).toNat) :: st) I J) : Wz G X nL Qs a b pc lv (.int (iZ z) :: .ref (kadr G o) :: st) I J := by
  refine Wz.know (fun hs hl9 => ?_)
  have h22 := dS_3 hs hl9 g.1 (by omega)
  have hb9 : 0 ≤ dL I o ∧ dL I o ≤ 100000 := dL_b hs h22 (by rw [g.1]; decide)
  obtain ⟨p, e, R, s, m, args, below, meth, c⟩ := X
  obtain ⟨hx, hb, hml, hown, hts, hr, hlk, hKK, hG, hlo⟩ := C
  intro k9 n9 hk9 hn9 H locs ls hP hS hl
  have hrow := sK3 (J := J) hs hl9 g.1 (by omega)
  have hz : z < 2147483648 := by omega
  refine va_aldq (D := G.2.2.1) (cl := vwCl) (tys := ktys G) hx hb hKK.1 (va_P1 (hP.row hrow)) 0 4 rfl rfl (iZ_vp g.2.1.1 hz (by omega)) d ?_
  rw [iZ_cN g.2.1.1 hz]
  show W _ _ _ _ _ _ _ _ _ _ _ _ _ _ _ (F0 m (pc + 1) ls (va_rf (refQ G.2.2.2.2 (I o z.toNat)) :: st))
  rw [refQ_rf]
  unfold refZ
  rw [if_neg (by omega)]
  exact k k9 n9 hk9 hn9 H locs ls hP hS hl
/-- a row of a row of rows -/
theorem wy_aald4 (C : Fr G X cc nL own ret Ts) {o : Nat} {z : Int} (g : dS I o = 4 ∧ (0 ≤ z ∧ z < dL I o) ∧ 0 ≤ I o z.toNat) (d : decode cc pc = .ok (.aaload, 1)) (k : Wz G X nL Qs a b (pc + 1) lv (.ref (kadr G (I o z.toNat).toNat) :: st) I J) : Wz G X nL Qs a b pc lv (.int (iZ z) :: .ref (kadr G o) :: st) I J := by
  refine Wz.know (fun hs hl9 => ?_)
  have h22 := dS_1 hs hl9 g.1 (Or.inr (Or.inl rfl))
  have hb9 : 0 ≤ dL I o ∧ dL I o ≤ 100000 := dL_b hs h22 (by rw [g.1]; decide)
  obtain ⟨p, e, R, s, m, args, below, meth, c⟩ := X
  obtain ⟨hx, hb, hml, hown, hts, hr, hlk, hKK, hG, hlo⟩ := C
  intro k9 n9 hk9 hn9 H locs ls hP hS hl
  have hrow := sK4 (J := J) hs hl9 g.1
  have hz : z < 2147483648 := by omega
  have h1 : H[kadr G o]? = some (vp_cell G.2.2.2.1.2.2.2.2.2 ((dL I o).toNat, .inr (.inr (.inr (.inr (fun i => refQ G.2.2.2.2 (I o i))))))) := hP.row hrow
  refine W.aald (ty := .array .int) (v := .ref (kadr G (I o z.toNat).toNat)) hx hb h1 ((hKK.1.2 5 _ rfl).1 _ (fun j => va_rf (refQ G.2.2.2.2 (I o j)))) rfl (fun q => by cases q) ?_ ?_ rfl rfl d (k k9 n9 hk9 hn9 H locs ls hP hS hl)
  · show ¬ (iZ z < 0 ∨ (arrV _ _ _).slots.size ≤ _)
    rw [arrV_size]
    exact iZ_vp g.2.1.1 hz (by omega)
  · rw [iZ_cN g.2.1.1 hz]
    show (arrV _ _ _).slots[_]? = _
    rw [arrV_read _ _ (by omega), refQ_rf]
    unfold refZ
    rw [if_neg (by omega)]
/-- a row of the table -/
theorem wy_aald6 (C : Fr G X cc nL own ret Ts) {z : Int} (g : 0 ≤ z ∧ z < 14) (d : decode cc pc = .ok (.aaload, 1)) (k : Wz G X nL Qs a b (pc + 1) lv (.ref (kadr G (1006 + z.toNat)) :: st) I J) : Wz G X nL Qs a b pc lv (.int (iZ z) :: .ref (kadr G 1005) :: st) I J := by
  obtain ⟨p, e, R, s, m, args, below, meth, c⟩ := X
  obtain ⟨hx, hb, hml, hown, hts, hr, hlk, hKK, hG, hlo⟩ := C
  intro k9 n9 hk9 hn9 H locs ls hP hS hl
  have hrow : sRG G (I, J) 1005 6 14 := sRw rfl (by decide)
  have h1 : H[kadr G 1005]? = some (vp_cell G.2.2.2.1.2.2.2.2.2 (14, .inr (.inr (.inr (.inr (fun i => some (G.2.2.2.2 (1006 + i)))))))) := hP.row hrow
  refine W.aald (ty := .array .int) (v := .ref (kadr G (1006 + z.toNat))) hx hb h1 ((hKK.1.2 5 _ rfl).1 _ (fun j => va_rf (some (G.2.2.2.2 (1006 + j))))) rfl (fun q => by cases q) ?_ ?_ rfl rfl d (k k9 n9 hk9 hn9 H locs ls hP hS hl)
  · show ¬ (iZ z < 0 ∨ (arrV _ _ _).slots.size ≤ _)
    rw [arrV_size]
    exact iZ_vp g.1 (by omega) (by omega)
  · rw [iZ_cN g.1 (by omega)]
    show (arrV _ _ _).slots[_]? = _
    rw [arrV_read _ _ (by omega)]
    rfl
/-- a row of ints into a row of objects -/
theorem wy_aast3 (C : Fr G X cc nL own ret Ts) (hW : KWx G) {o v : Nat} {z : Int} (g : (dS I o = 3 ∧ 0 ≤ z ∧ z < dL I o) ∧ dS I v = 1) (d : decode cc pc = .ok (.aastore, 1)) (k : ∀ I2 : Ii, I2 = up2 I o z.toNat (v : Int) → Wz G X nL Qs a b (pc + 1) lv st I2 J) : Wz G X nL Qs a b pc lv (.ref (kadr G v) :: .int (iZ z) :: .ref (kadr G o) :: st) I J := by
  have k := k _ rfl
  refine Wz.know (fun hs hl9 => ?_)
  have h22 := dS_3 hs hl9 g.1.1 (by omega)
  have hb9 : 0 ≤ dL I o ∧ dL I o ≤ 100000 := dL_b hs h22 (by rw [g.1.1]; decide)
  obtain ⟨mi, hW⟩ := hW
  obtain ⟨p, e, R, s, m, args, below, meth, c⟩ := X
  obtain ⟨hx, hb, hml, hown, hts, hr, hlk, hKK, hG, hlo⟩ := C
  have hK := hKK.1
  intro k9 n9 hk9 hn9 H locs ls hP hS hl
  have hrow := sK3 (J := J) hs hl9 g.1.1 (by omega)
  have hz : z < 2147483648 := by omega
  have h1 : H[kadr G o]? = some (vp_cell G.2.2.2.1.2.2.2.2.1 ((dL I o).toNat, .inr (.inr (.inr (.inr (fun i => refQ G.2.2.2.2 (I o i))))))) := hP.row hrow
  have h2 : H[kadr G v]? = some (vp_cell G.2.2.2.1.1 ((dL I v).toNat, .inl (fun i => iZ (I v i)))) := hP.row (sK1 hs hl9 g.2)
  have hne : shK G (I, J) o ≠ none := by rw [show shK G (I, J) o = _ from hrow]; intro z; cases z
  obtain ⟨kA, comp, r1, r2, r3, -⟩ := (hK.2 4 _ rfl).2
  obtain ⟨kE, hkE, -⟩ := Vm.findClass_spec r3
  obtain ⟨-, kI, hkI, -⟩ := (hK.2 0 _ rfl).1 0 (fun _ => .null)
  have hfI : s.vm.findClass "[I" = some G.2.2.2.1.1 := (hK.2 0 _ rfl).2
  obtain ⟨c1, c2, f1, f2, f3⟩ := Cond.castable_spec (va_Nw.use (A := args) rfl (hW s hKK.2.2.1).2.2.2.2.1.2.2.1)
  cases hfI.symm.trans f1
  cases r3.symm.trans f2
  refine W.aast hx hb h1 (fun q h => by cases h) (fun h => by cases h) r1 r2 rfl hkE ⟨iZ_ng g.1.2.1 hz, by show _ < (arrV _ _ _).slots.size; rw [arrV_size, iZ_cN g.1.2.1 hz]; omega⟩ h2 (fun q h => by cases h) hkI f3 rfl rfl d fun H1 e z9 oq => ?_
  rw [iZ_cN g.1.2.1 hz] at e ⊢
  refine k k9 n9 hk9 hn9 H1 _ ls (hP.upd (S' := (up2 I o z.toNat (v : Int), J)) hG hrow (fun k' q => by first | rfl | exact up2_key q) (fun k' q => by first | rfl | exact up2_key q) z9 oq ?_) (hS.put z9 oq (shK_low hG hne)) hl
  show H1[kadr G o]? = some (vp_cell G.2.2.2.1.2.2.2.2.1 ((dL I o).toNat, .inr (.inr (.inr (.inr (fun i => refQ G.2.2.2.2 (up2 I o z.toNat (v : Int) o i)))))))
  rw [e]
  rw [vp_cell_q, vp_cell_q, arrV_store]
  congr 2
  funext q
  by_cases hq : q = z.toNat
  · subst hq
    unfold updV
    rw [if_pos rfl, up2_self]
    unfold refQ
    rw [if_neg (by omega), Int.toNat_natCast]
    rfl
  · unfold updV
    rw [if_neg hq, up2_ne (fun z => hq z.2)]
/-- nothing into a row of objects -/
theorem wy_aast3N (C : Fr G X cc nL own ret Ts) {o : Nat} {z : Int} (g : dS I o = 3 ∧ 0 ≤ z ∧ z < dL I o) (d : decode cc pc = .ok (.aastore, 1)) (k : ∀ I2 : Ii, I2 = up2 I o z.toNat (-1) → Wz G X nL Qs a b (pc + 1) lv st I2 J) : Wz G X nL Qs a b pc lv (.null :: .int (iZ z) :: .ref (kadr G o) :: st) I J := by
  have k := k _ rfl
  refine Wz.know (fun hs hl9 => ?_)
  have h22 := dS_3 hs hl9 g.1 (by omega)
  have hb9 : 0 ≤ dL I o ∧ dL I o ≤ 100000 := dL_b hs h22 (by rw [g.1]; decide)
  obtain ⟨p, e, R, s, m, args, below, meth, c⟩ := X
  obtain ⟨hx, hb, hml, hown, hts, hr, hlk, hKK, hG, hlo⟩ := C
  have hK := hKK.1
  intro k9 n9 hk9 hn9 H locs ls hP hS hl
  have hrow := sK3 (J := J) hs hl9 g.1 (by omega)
  have hz : z < 2147483648 := by omega
  have h1 : H[kadr G o]? = some (vp_cell G.2.2.2.1.2.2.2.2.1 ((dL I o).toNat, .inr (.inr (.inr (.inr (fun i => refQ G.2.2.2.2 (I o i))))))) := hP.row hrow
  have hne : shK G (I, J) o ≠ none := by rw [show shK G (I, J) o = _ from hrow]; intro z; cases z
  refine va_WaastN (C := "java/lang/Object") hx hb h1 ((hK.2 4 _ rfl).1 _ (fun j => va_rf (refQ G.2.2.2.2 (I o j)))) (fun h => by cases h) (by show ¬ (_ ∨ (arrV _ _ _).slots.size ≤ _); rw [arrV_size]; exact iZ_vp g.2.1 hz (by omega)) rfl rfl d fun H1 e z9 oq => ?_
  rw [iZ_cN g.2.1 hz] at e ⊢
  refine k k9 n9 hk9 hn9 H1 _ ls (hP.upd (S' := (up2 I o z.toNat (-1), J)) hG hrow (fun k' q => by first | rfl | exact up2_key q) (fun k' q => by first | rfl | exact up2_key q) z9 oq ?_) (hS.put z9 oq (shK_low hG hne)) hl
  show H1[kadr G o]? = some (vp_cell G.2.2.2.1.2.2.2.2.1 ((dL I o).toNat, .inr (.inr (.inr (.inr (fun i => refQ G.2.2.2.2 (up2 I o z.toNat (-1) o i)))))))
  rw [e]
  rw [vp_cell_q, vp_cell_q, arrV_store]
  congr 2
  funext q
  by_cases hq : q = z.toNat
  · subst hq
    unfold updV
    rw [if_pos rfl, up2_self]
    rfl
  · unfold updV
    rw [if_neg hq, up2_ne (fun z => hq z.2)]
end WYA
