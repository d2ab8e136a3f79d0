/-! ===== what calls make: what stands fast, and the rules ===== -/
def FQk (ci i : Nat) (own : String) (ty : FieldType) : Prop := ∀ (C : String) (T : u_T) (N : Nat), vwCl[ci]? = some (C, T, N) → (T i).2.2.2 = true ∧ (T i).1 = own ∧ parseFieldDescriptor (T i).2.2.1 = some ty
def wAOA (ty : FieldType) (U : State) : Prop := (Cond.arrayOver (.array ty)).before #[] U = true
theorem wAOA.use {ty : FieldType} {A : Array Value} {U : State} (h : wAOA ty U) : (Cond.arrayOver (.array ty)).before A U = true := h
abbrev dS (I : Ii) (k : Nat) : Int := I (1000000 + k) 0
abbrev dL (I : Ii) (k : Nat) : Int := I (1000000 + k) 1
/-- the texts that are told by their places: whose constant, its entry, its text, its key -/
def kLdc : List (String × Nat × String × Nat) := [("ShareGraphLaw$World", 70, "parts ", 900), ("ShareGraphLaw$World", 75, ";", 902), ("ShareGraphLaw$World", 77, "slack ", 904), ("ShareGraphLaw$World", 82, "credit ", 906), ("ShareGraphLaw$World", 90, "vertex ", 908), ("ShareGraphLaw$World", 96, " ", 910), ("ShareGraphLaw$World", 98, " ;\n", 912), ("ShareGraphLaw$World", 103, "edge ", 914), ("ShareGraphLaw$World", 50, "v", 916), ("ShareGraphLaw$World", 41, "", 918),
  ("ShareGraph$TextReader", 36, "vertex", 920), ("ShareGraph$TextReader", 45, "edge", 922), ("ShareGraph$TextReader", 50, "parts", 924), ("ShareGraph$TextReader", 55, "slack", 926), ("ShareGraph$TextReader", 60, "credit", 928)]
/-- what of the machine's own things stands fast -/
def KWf (G : KG) (mi : Nat) (U : State) : Prop :=
  (va_Z "java/lang/String" "COMPACT_STRINGS" "Z" (.int (iZ 1)) (KFr G) U U.heap ∧ va_Zq "jdk/internal/util/Preconditions" "SIOOBE_FORMATTER" "Ljava/util/function/BiFunction;" (KFr G) U U.heap) ∧
  (∀ (i : Nat) (w : List Int), kLit[i]? = some w → va_O "java/lang/String" (kadr G (900 + 2 * i)) (KFr G) U U.heap ∧ va_OF "java/lang/String" "coder" "B" (.int (iZ 0)) (kadr G (900 + 2 * i)) (KFr G) U U.heap ∧ va_OF "java/lang/String" "value" "[B" (.ref (kadr G (901 + 2 * i))) (kadr G (900 + 2 * i)) (KFr G) U U.heap ∧ va_T .byte (kadr G (901 + 2 * i)) w.length (fun j => .int (iZ (w.getD j 0))) (KFr G) U U.heap) ∧
  ((va_Z "java/lang/Integer" "DigitTens" "[B" (.ref (kadr G 932)) (KFr G) U U.heap ∧ va_T .byte (kadr G 932) 100 (fun j => .int (iZ (lval 932 j))) (KFr G) U U.heap) ∧ (va_Z "java/lang/Integer" "DigitOnes" "[B" (.ref (kadr G 933)) (KFr G) U U.heap ∧ va_T .byte (kadr G 933) 100 (fun j => .int (iZ (lval 933 j))) (KFr G) U U.heap)) ∧
  (va_Z "java/util/ArrayList" "DEFAULTCAPACITY_EMPTY_ELEMENTDATA" "[Ljava/lang/Object;" (.ref (kadr G 930)) (KFr G) U U.heap ∧ va_T (.object "java/lang/Object") (kadr G 930) 0 (fun _ => .null) (KFr G) U U.heap) ∧
  (va_AO "java/lang/Object" U ∧ wAOA .int U ∧ va_Nw (.castable "[I" "java/lang/Object") U ∧ va_Nw (.castable "[B" "java/lang/Cloneable") U ∧ va_Dc U ∧ va_Mi "[Ljava/lang/Object;" mi U) ∧
  (va_Fw RJx4a65c ⟨"java/util/List", "add", "(Ljava/lang/Object;)Z"⟩ yJx4a65c_add_9ea2d U ∧ va_Fw RJx4a65c ⟨"java/util/List", "size", "()I"⟩ yJx4a65c_size_8abf5 U ∧ va_Fw RJx4a65c ⟨"java/util/List", "get", "(I)Ljava/lang/Object;"⟩ yJx4a65c_get_915e3 U ∧ va_Fw RJx4a65c ⟨"java/util/List", "remove", "(I)Ljava/lang/Object;"⟩ yJx4a65c_remove_915e3 U) ∧
  (∀ q ∈ kLdc, vk_R q.1 q.2.1 q.2.2.1 (kadr G q.2.2.2) U)
def KWx (G : KG) : Prop := ∃ mi : Nat, ∀ U : State, G.1.2 U → KWf G mi U
theorem lsort_in {k : Nat} : lsort k = 5 ∨ lsort k = 2 ∨ lsort k = 3 ∨ lsort k = 0 := by
  unfold lsort
  split
  · split <;> simp
  · split
    · simp
    · split <;> simp
theorem lsort_3 {k : Nat} (h : lsort k = 3) : k = 930 := by
  unfold lsort at h
  split at h
  · split at h <;> omega
  · split at h
    · assumption
    · split at h <;> omega
/-- a key with a sort is a text that stands fast, or was made -/
theorem dS_rg {G : KG} {I : Ii} (hs : SHD G I) {k : Nat} (h : dS I k ≠ 0) : (900 ≤ k ∧ k < 934) ∨ 1022 ≤ k := by
  by_cases c : 1022 ≤ k
  · exact Or.inr c
  · left
    by_cases c2 : k < 900 ∨ 934 ≤ k
    · exact absurd (hs.2.1 k (by omega) c2) h
    · omega
theorem dS_1 {G : KG} {I : Ii} (hs : SHD G I) (hl : LTP I) {k : Nat} {t : Int} (h : dS I k = t) (ht : t = 1 ∨ t = 4 ∨ t = 6) : 1022 ≤ k := by
  rcases dS_rg hs (k := k) (by rw [h]; omega) with c | c
  · have h1 := (hl k c.1 c.2).1
    have h2 := lsort_in (k := k)
    have h : I (1000000 + k) 0 = t := h
    omega
  · exact c
theorem dS_3 {G : KG} {I : Ii} (hs : SHD G I) (hl : LTP I) {k : Nat} (h : dS I k = 3) (h0 : 0 < dL I k) : 1022 ≤ k := by
  rcases dS_rg hs (k := k) (by rw [h]; omega) with c | c
  · obtain ⟨h1, h2, -⟩ := hl k c.1 c.2
    have h : I (1000000 + k) 0 = 3 := h
    have h3 := lsort_3 (h1.symm.trans h)
    subst h3
    have h0 : 0 < I (1000000 + 930) 1 := h0
    rw [h2] at h0
    exact absurd h0 (by decide)
  · exact c
theorem dsh_1 {I : Ii} {k : Nat} (h : dS I k = 1) : dsh I k = some (.inr (0, (dL I k).toNat)) := by unfold dsh; rw [if_pos h]
theorem dsh_2 {I : Ii} {k : Nat} (h : dS I k = 2) : dsh I k = some (.inr (3, (dL I k).toNat)) := by
  have h : I (1000000 + k) 0 = 2 := h
  unfold dsh; rw [if_neg (by omega), if_pos h]
theorem dsh_3 {I : Ii} {k : Nat} (h : dS I k = 3) : dsh I k = some (.inr (4, (dL I k).toNat)) := by
  have h : I (1000000 + k) 0 = 3 := h
  unfold dsh; rw [if_neg (by omega), if_neg (by omega), if_pos h]
theorem dsh_4 {I : Ii} {k : Nat} (h : dS I k = 4) : dsh I k = some (.inr (5, (dL I k).toNat)) := by
  have h : I (1000000 + k) 0 = 4 := h
  unfold dsh; rw [if_neg (by omega), if_neg (by omega), if_neg (by omega), if_pos h]
theorem dsh_5 {I : Ii} {k : Nat} (h : dS I k = 5) : dsh I k = some (.inl (0, [5000, 0, 0, 0])) := by
  have h : I (1000000 + k) 0 = 5 := h
  unfold dsh; rw [if_neg (by omega), if_neg (by omega), if_neg (by omega), if_neg (by omega), if_pos h]
theorem dsh_6 {I : Ii} {k : Nat} (h : dS I k = 6) : dsh I k = some (.inl (1, [5000, 0, 0, 0])) := by
  have h : I (1000000 + k) 0 = 6 := h
  unfold dsh; rw [if_neg (by omega), if_neg (by omega), if_neg (by omega), if_neg (by omega), if_neg (by omega), if_pos h]
section DYS
variable {G : KG} {I : Ii} {J : Jj} {k : Nat}
theorem sK1 (hs : SHD G I) (hl : LTP I) (h : dS I k = 1) : sRG G (I, J) k 0 (dL I k).toNat := (shK_d (dS_1 hs hl h (Or.inl rfl))).trans (dsh_1 h)
theorem sK4 (hs : SHD G I) (hl : LTP I) (h : dS I k = 4) : sRG G (I, J) k 5 (dL I k).toNat := (shK_d (dS_1 hs hl h (Or.inr (Or.inl rfl)))).trans (dsh_4 h)
theorem sK3 (hs : SHD G I) (hl : LTP I) (h : dS I k = 3) (h0 : 0 < dL I k) : sRG G (I, J) k 4 (dL I k).toNat := (shK_d (dS_3 hs hl h h0)).trans (dsh_3 h)
theorem sK2 (h : dS I k = 2) (h0 : 1022 ≤ k) : sRG G (I, J) k 3 (dL I k).toNat := (shK_d h0).trans (dsh_2 h)
theorem sK5 (h : dS I k = 5) (h0 : 1022 ≤ k) : shK G (I, J) k = some (.inl (0, [5000, 0, 0, 0])) := (shK_d h0).trans (dsh_5 h)
theorem sK6 (hs : SHD G I) (hl : LTP I) (h : dS I k = 6) : shK G (I, J) k = some (.inl (1, [5000, 0, 0, 0])) := (shK_d (dS_1 hs hl h (Or.inr (Or.inr rfl)))).trans (dsh_6 h)
end DYS
theorem dL_b {G : KG} {I : Ii} (hs : SHD G I) {k : Nat} (h0 : 1022 ≤ k) (h : dS I k ≠ 0) : 0 ≤ dL I k ∧ dL I k ≤ 100000 := (hs.1 k h0 h).2.2
theorem fldv_M (ad : Nat → Nat) (S : Sg) (k i : Nat) : fldv ad S k i 5000 = refZ ad (S.1 k i) := by
  show (if (4998 : Nat) = 4998 then refZ ad (S.1 k i) else Value.ref (ad 4998)) = _
  exact if_pos rfl
section WYR
variable {G : KG} {X : KX} {nL : Nat} {Qs : State → Prop} {a b a' b' pc : Nat} {lv : List (Option Value)} {st : List Value} {I : Ii} {J : Jj} {cc : ByteArray} {own : String} {ret : Option FieldType} {Ts : List Cond}
theorem Wz.know (k : SHD G I → LTP I → Wz G X nL Qs a b pc lv st I J) : Wz G X nL Qs a b pc lv st I J := by
  obtain ⟨p, e, R, s, m, args, below, meth, c⟩ := X
  intro k9 n9 hk9 hn9 H locs ls hP hS hl
  exact k hP.2.1 hP.2.2.1 k9 n9 hk9 hn9 H locs ls hP hS hl
/-- more room than is wanted -/
theorem Wz.less {a0 b0 : Nat} (h1 : a0 ≤ a) (h2 : b0 ≤ b) (k : Wz G X nL Qs a0 b0 pc lv st I J) : Wz G X nL Qs a b pc lv st I J := by
  obtain ⟨p, e, R, s, m, args, below, meth, c⟩ := X
  intro k9 n9 hk9 hn9 H locs ls hP hS hl
  exact k k9 n9 (by omega) (by omega) H locs ls hP hS hl
theorem wy_dup_x1 (C : Fr G X cc nL own ret Ts) {va vb : Value} (h1 : va.category = 1) (h2 : vb.category = 1) (d : decode cc pc = .ok (.dup_x1, 1)) (k : Wz G X nL Qs a b (pc + 1) lv (va :: vb :: va :: st) I J) : Wz G X nL Qs a b pc lv (va :: vb :: st) I J := by
  obtain ⟨p, e, R, s, m, args, below, meth, c⟩ := X
  obtain ⟨hx, hb, hml, hown, hts, hr, hlk, hKK, hG, hlo⟩ := C
  intro k9 n9 hk9 hn9 H locs ls hP hS hl
  exact lv_dup_x1 hx hb d h1 h2 (k k9 n9 hk9 hn9 H locs ls hP hS hl)
theorem wy_dup_x2 (C : Fr G X cc nL own ret Ts) {va vb vd : Value} (h1 : va.category = 1) (h2 : vb.category = 1) (h3 : vd.category = 1) (d : decode cc pc = .ok (.dup_x2, 1)) (k : Wz G X nL Qs a b (pc + 1) lv (va :: vb :: vd :: va :: st) I J) : Wz G X nL Qs a b pc lv (va :: vb :: vd :: st) I J := by
  obtain ⟨p, e, R, s, m, args, below, meth, c⟩ := X
  obtain ⟨hx, hb, hml, hown, hts, hr, hlk, hKK, hG, hlo⟩ := C
  intro k9 n9 hk9 hn9 H locs ls hP hS hl
  exact lv_dup_x2 hx hb d h1 h2 h3 (k k9 n9 hk9 hn9 H locs ls hP hS hl)
/-- what a byte keeps of an int, what a letter does -/
def i2bZ (x : Int) : Int := ((iZ x).toInt8.toInt32).toInt
def i2cZ (x : Int) : Int := (((iZ x).toUInt32 % 65536).toInt32).toInt
theorem wy_i2b (C : Fr G X cc nL own ret Ts) {x : Int} (d : decode cc pc = .ok (.i2b, 1)) (k : Wz G X nL Qs a b (pc + 1) lv (.int (iZ (i2bZ x)) :: st) I J) : Wz G X nL Qs a b pc lv (.int (iZ x) :: st) I J := by
  obtain ⟨p, e, R, s, m, args, below, meth, c⟩ := X
  obtain ⟨hx, hb, hml, hown, hts, hr, hlk, hKK, hG, hlo⟩ := C
  intro k9 n9 hk9 hn9 H locs ls hP hS hl
  exact lv_i2b hx hb d (iZ_back _).symm (k k9 n9 hk9 hn9 H locs ls hP hS hl)
theorem wy_i2c (C : Fr G X cc nL own ret Ts) {x : Int} (d : decode cc pc = .ok (.i2c, 1)) (k : Wz G X nL Qs a b (pc + 1) lv (.int (iZ (i2cZ x)) :: st) I J) : Wz G X nL Qs a b pc lv (.int (iZ x) :: st) I J := by
  obtain ⟨p, e, R, s, m, args, below, meth, c⟩ := X
  obtain ⟨hx, hb, hml, hown, hts, hr, hlk, hKK, hG, hlo⟩ := C
  intro k9 n9 hk9 hn9 H locs ls hP hS hl
  exact lv_i2c hx hb d (iZ_back _).symm (k k9 n9 hk9 hn9 H locs ls hP hS hl)
theorem wy_ifnonnull (C : Fr G X cc nL own ret Ts) {q : Nat} {off : Int} {tgt : Nat} (d : decode cc pc = .ok (.ifnonnull off, 3)) (ht : (pc : Int) + off = (tgt : Int)) (k : Wz G X nL Qs a b tgt lv st I J) : Wz G X nL Qs a b pc lv (.ref q :: st) I J := by
  obtain ⟨p, e, R, s, m, args, below, meth, c⟩ := X
  obtain ⟨hx, hb, hml, hown, hts, hr, hlk, hKK, hG, hlo⟩ := C
  intro k9 n9 hk9 hn9 H locs ls hP hS hl
  exact lv_ifnonnull hx hb d ht (k k9 n9 hk9 hn9 H locs ls hP hS hl)
theorem wy_null (C : Fr G X cc nL own ret Ts) (d : decode cc pc = .ok (.aconst_null, 1)) (k : Wz G X nL Qs a b (pc + 1) lv (.null :: st) I J) : Wz G X nL Qs a b pc lv st I J := by
  obtain ⟨p, e, R, s, m, args, below, meth, c⟩ := X
  obtain ⟨hx, hb, hml, hown, hts, hr, hlk, hKK, hG, hlo⟩ := C
  intro k9 n9 hk9 hn9 H locs ls hP hS hl
  exact lv_null hx hb d (k k9 n9 hk9 hn9 H locs ls hP hS hl)
/-- a reference against the empty row of lists -/
theorem wy_acmp0 (C : Fr G X cc nL own ret Ts) {q : Nat} {off : Int} {tgt : Nat} (hq : q = 930 ∨ 1022 ≤ q) (d : decode cc pc = .ok (.if_acmp .eq off, 3)) (ht : (pc : Int) + off = (tgt : Int)) (kt : q = 930 → Wz G X nL Qs a b tgt lv st I J) (kf : ¬ q = 930 → Wz G X nL Qs a b (pc + 3) lv st I J) : Wz G X nL Qs a b pc lv (.ref (kadr G 930) :: .ref (kadr G q) :: st) I J := by
  obtain ⟨p, e, R, s, m, args, below, meth, c⟩ := X
  obtain ⟨hx, hb, hml, hown, hts, hr, hlk, hKK, hG, hlo⟩ := C
  intro k9 n9 hk9 hn9 H locs ls hP hS hl
  have h1 := hG.2.2 930 (by omega) (by omega)
  refine lv_acmp_eq (rx := some (kadr G q)) (ry := some (kadr G 930)) hx hb d ht (fun e => ?_) (fun e => ?_)
  · have e : kadr G q = kadr G 930 := Option.some.inj e
    rcases hq with c | c
    · exact kt c k9 n9 hk9 hn9 H locs ls hP hS hl
    · have h2 := hG.1 q (by omega)
      omega
  · exact kf (fun z => e (by rw [z])) k9 n9 hk9 hn9 H locs ls hP hS hl
/-! ===== fields ===== -/
theorem wy_getM (C : Fr G X cc nL own ret Ts) {idx ci o i : Nat} (f : FLk Ts own idx ci i) (hs : sOG G (I, J) o i ci 5000) (g : 0 ≤ I o i) (d : decode cc pc = .ok (.getfield idx, 3)) (k : Wz G X nL Qs a b (pc + 3) lv (.ref (kadr G (I o i).toNat) :: st) I J) : Wz G X nL Qs a b pc lv (.ref (kadr G o) :: st) I J := by
  obtain ⟨p, e, R, s, m, args, below, meth, c⟩ := X
  obtain ⟨hx, hb, hml, hown, hts, hr, hlk, hKK, hG, hlo⟩ := C
  have hK := hKK.1
  intro k9 n9 hk9 hn9 H locs ls hP hS hl
  obtain ⟨Cn, T, N, ty, hc, hi, hin, hw, hty, hnm⟩ := f
  obtain ⟨ks, h1, h2, h3⟩ := hP.obj hs
  exact va_get (D := G.2.2.1) (cl := vwCl) (v := .ref (kadr G (I o i).toNat)) hx hb hts hin hown hK (va_P1 h3) 0 rfl hc i hi (hts _ hw) (fun _ h9 => h9) (by
    rw [List.getElem?_mapIdx, h2]
    show some (fldv G.2.2.2.2 (I, J) o i 5000) = _
    rw [fldv_M]
    show some (refZ G.2.2.2.2 (I o i)) = _
    unfold refZ
    rw [if_neg (by omega)]) d (k k9 n9 hk9 hn9 H locs ls hP hS hl)
/-- a field of references that is not final -/
theorem wy_putM (C : Fr G X cc nL own ret Ts) {idx ci o i j : Nat} {fty : FieldType} (f : FLk Ts own idx ci i) (fp : FPk ci i fty) (hr9 : narrow fty (.ref (kadr G j)) = .ref (kadr G j) ∧ fits fty (.ref (kadr G j)) = true) (hs : sOG G (I, J) o i ci 5000) (d : decode cc pc = .ok (.putfield idx, 3)) (k : ∀ I2 : Ii, I2 = up2 I o i (j : Int) → Wz G X nL Qs a b (pc + 3) lv st I2 J) : Wz G X nL Qs a b pc lv (.ref (kadr G j) :: .ref (kadr G o) :: st) I J := by
  have k := k _ rfl
  obtain ⟨p, e, R, s, m, args, below, meth, c⟩ := X
  obtain ⟨hx, hb, hml, hown, hts, hr, hlk, hKK, hG, hlo⟩ := C
  have hK := hKK.1
  intro k9 n9 hk9 hn9 H locs ls hP hS hl
  obtain ⟨Cn, T, N, ty, hc, hi, hin, hw, hty, hnm⟩ := f
  obtain ⟨ks, h1, h2, h3⟩ := hP.obj hs
  obtain ⟨hfin, hd⟩ := fp _ _ _ hc
  obtain ⟨hnar, hfit⟩ := hr9
  have hap := va_apart (own := own) hts hin ty hty hnm hK hc
  obtain ⟨r, g1, cell, q1, q2, q3, q4⟩ := h3
  have hr9 : r = (Cn, T, N) := Option.some.inj (g1.symm.trans hc)
  subst hr9
  obtain ⟨hSl, hfc, kC, hkC, hkind⟩ := hK.1 ci _ hc
  obtain ⟨cf, kf, fi, f, hif, hsl⟩ := hSl i hi
  have hlay := hts _ (hin _ (u_in_lay hi))
  unfold u_lay at hlay
  rw [if_neg (by rw [hfin]; decide)] at hlay
  have hst := (u_facts hfc hkC (u_lays hts hin hi) hif).1
  have h6 := u_store hfc hkC hkind hlay hif hd hnar hfit
  have hlen : i < (ks.mapIdx (fun i9 kd => fldv G.2.2.2.2 (I, J) o i9 kd)).length := by rw [List.length_mapIdx]; exact (List.getElem?_eq_some_iff.mp h2).1
  refine W.putK hx hb (f := f) ⟨hown, hts _ hw, ⟨_, _, _, hif⟩, hst⟩ (by rw [q2]; exact h6) q1 q3 (by rw [hsl]; exact k2_hasslot (q4 i hi)) rfl rfl d fun H' e1 e2 e3 => ?_
  rw [hsl] at e1 ⊢
  refine k k9 n9 hk9 hn9 H' _ ls (hP.upd (S' := (up2 I o i (j : Int), J)) hG h1 (fun k' q => by first | rfl | exact up2_key q) (fun k' q => by first | rfl | exact up2_key q) e2 e3 ?_) (hS.put e2 e3 (shK_low hG (by rw [h1]; intro z; cases z))) hl
  have hset : (ks.mapIdx (fun i9 kd => fldv G.2.2.2.2 (I, J) o i9 kd)).set i (.ref (kadr G j)) = ks.mapIdx (fun i9 kd => fldv G.2.2.2.2 (up2 I o i (j : Int), J) o i9 kd) := mapIdx_set (S := (I, J)) (S' := (up2 I o i (j : Int), J)) (ad := G.2.2.2.2) (k := o) (v := .ref (kadr G j)) h2 (by
    rw [fldv_M]
    show refZ G.2.2.2.2 (up2 I o i (j : Int) o i) = _
    rw [up2_self]
    unfold refZ
    rw [if_neg (by omega), Int.toNat_natCast]) (fun j kd' q => fldv_other (by first | rfl | exact up2_ne (fun z => q z.2)) (by first | rfl | exact up2_ne (fun z => q z.2)))
  show va_at G.2.2.1 vwCl (kadr G o, .inr (ci, ks.mapIdx (fun i9 kd => fldv G.2.2.2.2 _ o i9 kd))) H'
  rw [← hset]
  exact ⟨_, hc, t_OB.to (V := updV (vp_V (ks.mapIdx (fun i9 kd => fldv G.2.2.2.2 (I, J) o i9 kd))) i (.ref (kadr G j))) ⟨_, e1, q2, q3, t_set q4 hap hi (.ref (kadr G j))⟩ (fun j _ => vp_updV_set hlen (.ref _) j)⟩
/-- the method of this run has this name -/
def KN (X : KX) : String := X.2.2.2.2.2.2.2.1.name
/-- a final field, in a constructor: v is what is put, x its number -/
theorem wy_putF (C : Fr G X cc nL own ret Ts) (hnmX : KN X = "<init>") {idx ci o i kd : Nat} {x : Int} {v : Value} {fty : FieldType} (f : FLk Ts own idx ci i) (fq : FQk ci i own fty) (hnar : narrow fty v = v) (hfit : fits fty v = true) (hs : sOG G (I, J) o i ci kd) (hv : fldv G.2.2.2.2 (up2 I o i x, J) o i kd = v) (d : decode cc pc = .ok (.putfield idx, 3)) (k : ∀ I2 : Ii, I2 = up2 I o i x → Wz G X nL Qs a b (pc + 3) lv st I2 J) : Wz G X nL Qs a b pc lv (v :: .ref (kadr G o) :: st) I J := by
  have k := k _ rfl
  obtain ⟨p, e, R, s, m, args, below, meth, c⟩ := X
  obtain ⟨hx, hb, hml, hown, hts, hr, hlk, hKK, hG, hlo⟩ := C
  have hnmX : meth.name = "<init>" := hnmX
  have hK := hKK.1
  intro k9 n9 hk9 hn9 H locs ls hP hS hl
  obtain ⟨Cn, T, N, ty, hc, hi, hin, hw, hty, hnm⟩ := f
  obtain ⟨ks, h1, h2, h3⟩ := hP.obj hs
  obtain ⟨hfin, hdecl, hd⟩ := fq _ _ _ hc
  have hap := va_apart (own := own) hts hin ty hty hnm hK hc
  obtain ⟨r, g1, cell, q1, q2, q3, q4⟩ := h3
  have hr9 : r = (Cn, T, N) := Option.some.inj (g1.symm.trans hc)
  subst hr9
  obtain ⟨hSl, hfc, kC, hkC, hkind⟩ := hK.1 ci _ hc
  obtain ⟨cf, kf, fi, f, hif, hsl⟩ := hSl i hi
  have hlay := hts _ (hin _ (u_in_lay hi))
  unfold u_lay at hlay
  rw [if_pos hfin] at hlay
  have hst := (u_facts hfc hkC (u_lays hts hin hi) hif).1
  have hcf : m.cls = cf := by
    obtain ⟨_, _, c', _, _, _, -, -, hf', -, -, -, hown2, -⟩ := Cond.laysFinal_spec hlay
    have e1 : c' = cf := by have := hif.symm.trans hf'; simp at this; exact this.1.symm
    rw [hdecl] at hown2
    rw [← e1]; exact Option.some.inj (hown.symm.trans hown2)
  have h6 := u_fits hfc hkC hkind (Or.inr hlay) hif hd hnar hfit
  have hlen : i < (ks.mapIdx (fun i9 kd => fldv G.2.2.2.2 (I, J) o i9 kd)).length := by rw [List.length_mapIdx]; exact (List.getElem?_eq_some_iff.mp h2).1
  refine W.putFinK hx hb hown (hts _ hw) hif hst hcf hnmX (by rw [q2]; exact h6) q1 q3 (by rw [hsl]; exact k2_hasslot (q4 i hi)) rfl rfl d fun H' e1 e2 e3 => ?_
  rw [hsl] at e1 ⊢
  refine k k9 n9 hk9 hn9 H' _ ls (hP.upd (S' := (up2 I o i x, J)) hG h1 (fun k' q => by first | rfl | exact up2_key q) (fun k' q => by first | rfl | exact up2_key q) e2 e3 ?_) (hS.put e2 e3 (shK_low hG (by rw [h1]; intro z; cases z))) hl
  have hset : (ks.mapIdx (fun i9 kd => fldv G.2.2.2.2 (I, J) o i9 kd)).set i v = ks.mapIdx (fun i9 kd => fldv G.2.2.2.2 (up2 I o i x, J) o i9 kd) := mapIdx_set (S := (I, J)) (S' := (up2 I o i x, J)) (ad := G.2.2.2.2) (k := o) (v := v) h2 hv (fun j kd' q => fldv_other (by first | rfl | exact up2_ne (fun z => q z.2)) (by first | rfl | exact up2_ne (fun z => q z.2)))
  show va_at G.2.2.1 vwCl (kadr G o, .inr (ci, ks.mapIdx (fun i9 kd => fldv G.2.2.2.2 _ o i9 kd))) H'
  rw [← hset]
  exact ⟨_, hc, t_OB.to (V := updV (vp_V (ks.mapIdx (fun i9 kd => fldv G.2.2.2.2 (I, J) o i9 kd))) i v) ⟨_, e1, q2, q3, t_set q4 hap hi v⟩ (fun j _ => vp_updV_set hlen v j)⟩
/-! ===== texts: their fields, their bytes ===== -/
theorem lit_of {k : Nat} (h : 900 ≤ k) (h2 : k < 930) (h3 : k % 2 = 0) : ∃ (i : Nat) (w : List Int), kLit[i]? = some w ∧ k = 900 + 2 * i := by
  refine ⟨(k - 900) / 2, kLit.getD ((k - 900) / 2) [], ?_, by omega⟩
  rw [List.getD_eq_getElem?_getD]
  have hl : (k - 900) / 2 < kLit.length := by show _ < 15; omega
  rw [List.getElem?_eq_getElem hl]
  rfl
theorem lsort_5 {k : Nat} (h : lsort k = 5) : k < 930 ∧ k % 2 = 0 := by
  unfold lsort at h
  split at h
  · split at h
    · rename_i c1 c2; exact ⟨c1, c2⟩
    · omega
  · split at h
    · omega
    · split at h <;> omega
theorem dS_5 {G : KG} {I : Ii} (hs : SHD G I) (hl : LTP I) {k : Nat} (h : dS I k = 5) : 1022 ≤ k ∨ ∃ (i : Nat) (w : List Int), kLit[i]? = some w ∧ k = 900 + 2 * i := by
  rcases dS_rg hs (k := k) (by rw [h]; omega) with c | c
  · right
    have h1 := (hl k c.1 c.2).1
    have h2 := lsort_5 (h1.symm.trans h)
    exact lit_of c.1 h2.1 h2.2
  · exact Or.inl c
theorem wy_getSV (C : Fr G X cc nL own ret Ts) (hW : KWx G) {idx o : Nat} (f : FLk Ts own idx 0 0) (hlk : Cond.fieldLink own idx "java/lang/String" "value" "[B" ∈ Ts) (g : dS I o = 5 ∧ 0 ≤ I o 0) (d : decode cc pc = .ok (.getfield idx, 3)) (k : Wz G X nL Qs a b (pc + 3) lv (.ref (kadr G (I o 0).toNat) :: st) I J) : Wz G X nL Qs a b pc lv (.ref (kadr G o) :: st) I J := by
  refine Wz.know (fun hs hl => ?_)
  rcases dS_5 hs hl g.1 with c | ⟨i, w, hi, rfl⟩
  · exact wy_getM C f ⟨_, sK5 g.1 c, rfl⟩ g.2 d k
  · obtain ⟨mi, hW⟩ := hW
    obtain ⟨p, e, R, s, m, args, below, meth, c⟩ := X
    obtain ⟨hx, hb, hml, hown, hts, hr, hlk9, hKK, hG, hlo⟩ := C
    intro k9 n9 hk9 hn9 H locs ls hP hS hl9
    have hi15 : i < 15 := (List.getElem?_eq_some_iff.mp hi).1
    have e0 : I (900 + 2 * i) 0 = ((901 + 2 * i : Nat) : Int) := by
      rw [((hl (900 + 2 * i) (by omega) (by omega)).2.2.1 (by omega) (by omega)).1]
      unfold lval
      rw [if_pos (by omega), if_pos (by omega), if_pos rfl]
      omega
    rw [e0, Int.toNat_natCast] at k
    exact vk_getf hx hb ((hW s hKK.2.2.1).2.1 i w hi).2.2.1 hS hown (hts _ hlk) (fun x h => h) d (k k9 n9 hk9 hn9 H locs ls hP hS hl9)
theorem wy_getSC (C : Fr G X cc nL own ret Ts) (hW : KWx G) {idx o : Nat} (f : FLk Ts own idx 0 1) (hlk : Cond.fieldLink own idx "java/lang/String" "coder" "B" ∈ Ts) (g : dS I o = 5) (d : decode cc pc = .ok (.getfield idx, 3)) (k : Wz G X nL Qs a b (pc + 3) lv (.int (iZ (I o 1)) :: st) I J) : Wz G X nL Qs a b pc lv (.ref (kadr G o) :: st) I J := by
  refine Wz.know (fun hs hl => ?_)
  rcases dS_5 hs hl g with c | ⟨i, w, hi, rfl⟩
  · exact wz_getI C rfl f ⟨_, sK5 g c, rfl⟩ d k
  · obtain ⟨mi, hW⟩ := hW
    obtain ⟨p, e, R, s, m, args, below, meth, c⟩ := X
    obtain ⟨hx, hb, hml, hown, hts, hr, hlk9, hKK, hG, hlo⟩ := C
    intro k9 n9 hk9 hn9 H locs ls hP hS hl9
    have hi15 : i < 15 := (List.getElem?_eq_some_iff.mp hi).1
    have e0 : I (900 + 2 * i) 1 = 0 := ((hl (900 + 2 * i) (by omega) (by omega)).2.2.1 (by omega) (by omega)).2
    rw [e0] at k
    exact vk_getf hx hb ((hW s hKK.2.2.1).2.1 i w hi).2.1 hS hown (hts _ hlk) (fun x h => h) d (k k9 n9 hk9 hn9 H locs ls hP hS hl9)
/-- the bytes of a row: how the heap holds them -/
theorem byt_of (hW : KWx G) {S : Sg} {s : State} {H : Heap} {locs : List Loc} (hKK : Kst G s) (hS : va_S (KFr G) s.heap H locs) (hP : Pic G S H) {k : Nat} (g : dS S.1 k = 2) : ∃ cell : Cell, H[kadr G k]? = some cell ∧ s.isArrayOf cell .byte ∧ cell.vm ≠ .unknown ∧ (dL S.1 k).toNat ≤ cell.slots.size ∧ cell.slots.size.toInt32 = Int32.ofNat (dL S.1 k).toNat ∧ ∀ j : Nat, j < (dL S.1 k).toNat → cell.slots[j]? = some (.int (iZ (S.1 k j))) := by
  have hs := hP.2.1
  have hl := hP.2.2.1
  rcases dS_rg hs (k := k) (by rw [g]; omega) with c | c
  · obtain ⟨h1, h2, -, h4⟩ := hl k c.1 c.2
    have g9 : lsort k = 2 := h1.symm.trans g
    have hT : ∃ f : Nat → Value, va_T .byte (kadr G k) (llen k).toNat f (KFr G) s s.heap ∧ ∀ j : Nat, j < (llen k).toNat → f j = .int (iZ (lval k j)) := by
      obtain ⟨mi, hW⟩ := hW
      have hU := hW s hKK.2.2.1
      by_cases c1 : k < 930
      · have c2 : k % 2 = 1 := by
          unfold lsort at g9
          rw [if_pos c1] at g9
          by_cases c3 : k % 2 = 0
          · rw [if_pos c3] at g9; omega
          · omega
        have hll : (k - 901) / 2 < kLit.length := by show _ < 15; omega
        have hk9 : kLit[(k - 901) / 2]? = some (kLit.getD ((k - 901) / 2) []) := by rw [List.getD_eq_getElem?_getD, List.getElem?_eq_getElem hll]; rfl
        have h9 := (hU.2.1 _ _ hk9).2.2.2
        rw [show 901 + 2 * ((k - 901) / 2) = k by omega] at h9
        have e1 : (llen k).toNat = (kLit.getD ((k - 901) / 2) []).length := by
          unfold llen
          rw [if_pos c1, if_neg (by omega), Int.toNat_natCast]
        refine ⟨_, by rw [e1]; exact h9, fun j hj => ?_⟩
        unfold lval
        rw [if_pos c1, if_neg (by omega)]
      · have c2 : k = 932 ∨ k = 933 := by
          unfold lsort at g9
          rw [if_neg c1] at g9
          by_cases c3 : k = 930
          · rw [if_pos c3] at g9; omega
          · rw [if_neg c3] at g9
            by_cases c4 : k = 931
            · rw [if_pos c4] at g9; omega
            · omega
        rcases c2 with rfl | rfl
        · exact ⟨_, hU.2.2.1.1.2, fun j _ => rfl⟩
        · exact ⟨_, hU.2.2.1.2.2, fun j _ => rfl⟩
    obtain ⟨f, ⟨cell, t1, t2, t3, t4, t5, t6, t7⟩, hf⟩ := hT
    have e2 : (dL S.1 k).toNat = (llen k).toNat := by show (S.1 (1000000 + k) 1).toNat = _; rw [h2]
    rw [e2]
    refine ⟨cell, by rw [hS.2.1 _ (Array.getElem?_eq_some_iff.mp t1).1 t7]; exact t1, t2, t3, t4, t5, fun j hj => ?_⟩
    rw [t6 j hj, hf j hj, h4 j (by omega)]
  · have h3 := hP.row (sK2 (G := G) (I := S.1) (J := S.2) g c)
    have h3 : H[kadr G k]? = some (vp_cell G.2.2.2.1.2.2.2.1 ((dL S.1 k).toNat, .inl (fun i => iZ (S.1 k i)))) := h3
    refine ⟨_, h3, (hKK.1.2 3 _ rfl).1 _ (fun j => .int (iZ (S.1 k j))), (fun h => by cases h), ?_, ?_, fun j hj => ?_⟩
    · show _ ≤ (arrV _ _ _).slots.size; rw [arrV_size]; exact Nat.le_refl _
    · show (arrV _ _ _).slots.size.toInt32 = _; rw [arrV_size]; first | done | rfl
    · show (arrV _ _ _).slots[_]? = _; rw [arrV_read _ _ hj]
theorem wy_bald (C : Fr G X cc nL own ret Ts) (hW : KWx G) {o : Nat} {z : Int} (g : dS I o = 2 ∧ 0 ≤ z ∧ z < dL I o) (hz : z < 2147483648) (d : decode cc pc = .ok (.baload, 1)) (k : Wz G X nL Qs a b (pc + 1) lv (.int (iZ (I o z.toNat)) :: st) I J) : Wz G X nL Qs a b pc lv (.int (iZ z) :: .ref (kadr G o) :: st) I J := by
  obtain ⟨p, e, R, s, m, args, below, meth, c⟩ := X
  obtain ⟨hx, hb, hml, hown, hts, hr, hlk, hKK, hG, hlo⟩ := C
  intro k9 n9 hk9 hn9 H locs ls hP hS hl
  obtain ⟨cell, t1, t2, t3, t4, -, t6⟩ := byt_of hW hKK hS hP g.1
  have ez : (iZ z).toInt = z := iZ_toInt (by omega)
  have ec : (iZ z).toNatClampNeg = z.toNat := by show (iZ z).toInt.toNat = _; rw [ez]
  have t4 : (dL I o).toNat ≤ cell.slots.size := t4
  have t6 : ∀ j : Nat, j < (dL I o).toNat → cell.slots[j]? = some (.int (iZ (I o j))) := t6
  have hlt : z.toNat < (dL I o).toNat := by omega
  refine W.bald hx hb t1 t2 t3 ?_ (by rw [ec]; exact t6 _ hlt) rfl rfl d (k k9 n9 hk9 hn9 H locs ls hP hS hl)
  rintro (q | q)
  · have := (iZ_lt (a := z) (b := 0) (by omega) (by omega)).mp (by rw [iZ_0]; exact q)
    omega
  · rw [ec] at q; omega
theorem wy_bast (C : Fr G X cc nL own ret Ts) {o : Nat} {z x : Int} (g : (dS I o = 2 ∧ 1022 ≤ o) ∧ (0 ≤ z ∧ z < dL I o) ∧ -128 ≤ x ∧ x < 128) (hz : z < 2147483648) (d : decode cc pc = .ok (.bastore, 1)) (k : ∀ I2 : Ii, I2 = up2 I o z.toNat x → Wz G X nL Qs a b (pc + 1) lv st I2 J) : Wz G X nL Qs a b pc lv (.int (iZ x) :: .int (iZ z) :: .ref (kadr G o) :: st) I J := by
  have k := k _ rfl
  obtain ⟨p, e, R, s, m, args, below, meth, c⟩ := X
  obtain ⟨hx, hb, hml, hown, hts, hr, hlk, hKK, hG, hlo⟩ := C
  have hK := hKK.1
  intro k9 n9 hk9 hn9 H locs ls hP hS hl
  have hs : sRG G (I, J) o 3 (dL I o).toNat := sK2 g.1.1 g.1.2
  have h1 : H[kadr G o]? = some (vp_cell G.2.2.2.1.2.2.2.1 ((dL I o).toNat, .inl (fun i => iZ (I o i)))) := hP.row hs
  have hne : shK G (I, J) o ≠ none := by rw [show shK G (I, J) o = _ from hs]; intro z; cases z
  have ez : (iZ z).toInt = z := iZ_toInt (by omega)
  have ec : (iZ z).toNatClampNeg = z.toNat := by show (iZ z).toInt.toNat = _; rw [ez]
  have hnx : narrow .byte (.int (iZ x)) = .int (iZ x) := by
    have hb9 : ∀ b : Fin 256, (iZ ((b.val : Int) - 128)).toInt8.toInt32 = iZ ((b.val : Int) - 128) := by decide +kernel
    have := hb9 ⟨(x + 128).toNat, by omega⟩
    rw [show (((⟨(x + 128).toNat, by omega⟩ : Fin 256).val : Int) - 128) = x by show (((x + 128).toNat : Nat) : Int) - 128 = x; omega] at this
    show Value.int ((iZ x).toInt8.toInt32) = _
    rw [this]
  refine W.bast hx hb h1 ((hK.2 3 _ rfl).1 _ (fun j => .int (iZ (I o j)))) (fun q => by cases q) ?_ rfl rfl d fun H1 e z9 oq => ?_
  · show ¬ (iZ z < 0 ∨ (arrV _ _ _).slots.size ≤ _)
    rw [arrV_size, ec]
    rintro (q | q)
    · have := (iZ_lt (a := z) (b := 0) (by omega) (by omega)).mp (by rw [iZ_0]; exact q)
      omega
    · omega
  · rw [ec, hnx] at e
    refine k k9 n9 hk9 hn9 H1 _ ls (hP.upd (S' := (up2 I o z.toNat x, J)) hG hs (fun k' q => by first | rfl | exact up2_key q) (fun k' q => by first | rfl | exact up2_key q) z9 oq ?_) (hS.put z9 oq (shK_low hG hne)) hl
    show H1[kadr G o]? = some (vp_cell G.2.2.2.1.2.2.2.1 ((dL I o).toNat, .inl (fun i => iZ ((up2 I o z.toNat x) o i))))
    rw [e]
    rw [vp_cell_i, vp_cell_i, arrV_store]
    congr 2
    funext q
    by_cases hq : q = z.toNat
    · subst hq
      simp [updV, up2]
    · simp [updV, up2, hq]
end WYR
