/-! ===== building: cells one behind another ===== -/
def BH (G : KG) (n : Nat) (E : Nat → va_E) (H : Heap) : Prop := H.size = G.2.1 + n ∧ ∀ i, i < n → va_at G.2.2.1 vwCl (G.2.1 + i, E i) H
def bup (E : Nat → va_E) (i : Nat) (e : va_E) : Nat → va_E := fun j => if j = i then e else E j
theorem BH.push {G : KG} {n : Nat} {E : Nat → va_E} {H H1 : Heap} {e : va_E} (h : BH G n E H) (hz : H1.size = H.size + 1) (hk : ∀ q, q < H.size → H1[q]? = H[q]?) (he : va_at G.2.2.1 vwCl (G.2.1 + n, e) H1) : BH G (n + 1) (bup E n e) H1 := by
  refine ⟨by rw [hz, h.1]; omega, fun i hi => ?_⟩
  unfold bup
  by_cases c : i = n
  · subst c; rw [if_pos rfl]; exact he
  · rw [if_neg c]; exact (h.2 i (by omega)).kept (hk _ (by rw [h.1]; show G.2.1 + i < _; omega))
theorem BH.put {G : KG} {n i : Nat} {E : Nat → va_E} {H H1 : Heap} {e : va_E} (h : BH G n E H) (hz : H1.size = H.size) (hk : ∀ q, q ≠ G.2.1 + i → H1[q]? = H[q]?) (he : va_at G.2.2.1 vwCl (G.2.1 + i, e) H1) : BH G n (bup E i e) H1 := by
  refine ⟨by rw [hz, h.1], fun j hj => ?_⟩
  unfold bup
  by_cases c : j = i
  · subst c; rw [if_pos rfl]; exact he
  · rw [if_neg c]; exact (h.2 j hj).kept (hk _ (by show G.2.1 + j ≠ _; omega))
/-- what is fixed in a constructor's run -/
def FrB (G : KG) (X : KX) (cc : ByteArray) (nL : Nat) (own : String) (ret : Option FieldType) (Ts : List Cond) (ini : Bool) : Prop := match X with
  | (p, _, _, s, m, args, _, meth, c) => p.tables.exec = Jvm.exec ∧ c.code = cc ∧ c.maxLocals = nL ∧ s.vm.findClass own = some m.cls ∧ (∀ w ∈ Ts, w.before args s = true) ∧ meth.sig.returnType = ret ∧ meth.locks = false ∧ Kst G s ∧ (ini = true → meth.name = "<init>") ∧ G.2.1 ≤ s.heap.size
def Wb (G : KG) (X : KX) (nL : Nat) (Qs : State → Prop) (a b pc : Nat) (lv : List (Option Value)) (st : List Value) (n : Nat) (E : Nat → va_E) : Prop := match X with
  | (p, e, R, s, m, args, below, meth, c) => ∀ (k9 n9 : Nat), k9 + a ≤ R.cells → n9 + b ≤ R.slots → ∀ (H : Heap) (locs : List Loc) (ls : Array Slot), BH G n E H → va_S (KFr G) s.heap H locs → lvD ls nL lv → W p G.1.1 e R s m args below meth c H locs k9 n9 Qs (F0 m pc ls st)
def QcB (G : KG) (n : Nat) (E : Nat → va_E) : Array Value → State → Outcome → State → Prop := fun _ st oc t => (oc = .returned none ∧ BH G n E t.heap) ∧ va_F (KFr G) st t
/-- a constructor: out of these cells, those -/
def CtrB (G : KG) (y : MethodName) (ws : List Cond) (rm : Room) (Av : List Value) (n : Nat) (E : Nat → va_E) (n' : Nat) (E' : Nat → va_E) : Prop :=
  Met G.1.1 y ws rm (va_Pc Av (fun U => BH G n E U.heap ∧ Kst G U)) (QcB G n' E') rm.cells rm.slots (KFr G)
def QsB9 (G : KG) (X : KX) (n : Nat) (E : Nat → va_E) : State → Prop := match X with
  | (_, _, R, s, _, args, below, _, _) => MQ below (QcB G n E) args s R.cells R.slots (KFr G)
theorem CtrB.of {G : KG} {y : MethodName} {ws ws' : List Cond} {rm : Room} {Av : List Value} {n n' : Nat} {E E' : Nat → va_E} {cc : ByteArray} {nL : Nat} {ret : Option FieldType} (lv : List (Option Value)) (hy : plainName y.cls = true) (hin : y.name = "<init>") (hw : ws = Cond.code y cc nL ret :: ws') (hlen : (lg_sl Av).length ≤ nL) (hlv : lv.length ≤ nL) (hla : ∀ q ∈ lvA 0 lv, q ∈ lv_args 0 Av)
    (body : ∀ X : KX, KR X = rm → FrB G X cc nL y.cls ret ws true → Wb G X nL (QsB9 G X n' E') rm.cells rm.slots 0 lv [] n E) : CtrB G y ws rm Av n E n' E' := by
  refine Met.ofW (cc := cc) (maxL := nL) (ret := ret) hy hw ?_
  intro p e s m args below meth c s₁ B hml hv
  obtain ⟨rfl, hP, hK⟩ := hv
  have hown : s.vm.findClass y.cls = some m.cls := findClass_of_methodNamed B.named
  have hnm : meth.name = "<init>" := (name_of_methodNamed B.named B.method).1.trans hin
  rw [lg_entry_eq]
  exact body (p, e, rm, s, m, Av.toArray, below, meth, c) rfl ⟨B.exec, B.bytes, hml, hown, atoms_spec (ws := ws) B.pre, B.returns, B.notSynchronized, hK, fun _ => hnm, by rw [hP.1]; omega⟩ 0 0 (by show 0 + rm.cells ≤ rm.cells; omega) (by show 0 + rm.slots ≤ rm.slots; omega) s.heap [] _ hP va_S.rf (lvD.of (lv_entry Av hlen) hlv (fun i v h => hla (i, v) ((lvA_mem lv 0 (i, v)).mpr ⟨Nat.zero_le _, h⟩)))
section WBR
variable {G : KG} {X : KX} {nL : Nat} {Qs : State → Prop} {a b pc n : Nat} {E : Nat → va_E} {lv : List (Option Value)} {st : List Value} {cc : ByteArray} {own : String} {ret : Option FieldType} {Ts : List Cond} {ini : Bool}
theorem wb_aload_n (C : FrB G X cc nL own ret Ts ini) {j : Fin 4} {i : Nat} {x : Nat} (hi : (j : Nat) = i) (h : lv[i]? = some (some (.ref x))) (d : decode cc pc = .ok (.aload_n j, 1)) (k : Wb G X nL Qs a b (pc + 1) lv (.ref x :: st) n E) : Wb G X nL Qs a b pc lv st n E := by
  obtain ⟨p, e, R, s, m, args, below, meth, c⟩ := X
  obtain ⟨hx, hb, hml, hown, hts, hr, hlk, hKK, hin, hlo⟩ := C
  intro k9 n9 hk9 hn9 H locs ls hP hS hl
  exact lv_aload_n hx hb d hi (hl.2.2.2 _ _ h) (k k9 n9 hk9 hn9 H locs ls hP hS hl)
theorem wb_iconst (C : FrB G X cc nL own ret Ts ini) {z : Int} (d : decode cc pc = .ok (.iconst z, 1)) (k : Wb G X nL Qs a b (pc + 1) lv (.int (iZ z) :: st) n E) : Wb G X nL Qs a b pc lv st n E := by
  obtain ⟨p, e, R, s, m, args, below, meth, c⟩ := X
  obtain ⟨hx, hb, hml, hown, hts, hr, hlk, hKK, hin, hlo⟩ := C
  intro k9 n9 hk9 hn9 H locs ls hP hS hl
  exact lv_iconst hx hb d rfl (k k9 n9 hk9 hn9 H locs ls hP hS hl)
theorem wb_bipush (C : FrB G X cc nL own ret Ts ini) {z : Int} (hv : (Int8.ofInt z).toInt32 = iZ z) (d : decode cc pc = .ok (.bipush z, 2)) (k : Wb G X nL Qs a b (pc + 2) lv (.int (iZ z) :: st) n E) : Wb G X nL Qs a b pc lv st n E := by
  obtain ⟨p, e, R, s, m, args, below, meth, c⟩ := X
  obtain ⟨hx, hb, hml, hown, hts, hr, hlk, hKK, hin, hlo⟩ := C
  intro k9 n9 hk9 hn9 H locs ls hP hS hl
  exact lv_bipush hx hb d hv (k k9 n9 hk9 hn9 H locs ls hP hS hl)
theorem wb_sipush (C : FrB G X cc nL own ret Ts ini) {z : Int} (hv : (Int16.ofInt z).toInt32 = iZ z) (d : decode cc pc = .ok (.sipush z, 3)) (k : Wb G X nL Qs a b (pc + 3) lv (.int (iZ z) :: st) n E) : Wb G X nL Qs a b pc lv st n E := by
  obtain ⟨p, e, R, s, m, args, below, meth, c⟩ := X
  obtain ⟨hx, hb, hml, hown, hts, hr, hlk, hKK, hin, hlo⟩ := C
  intro k9 n9 hk9 hn9 H locs ls hP hS hl
  exact lv_sipush hx hb d hv (k k9 n9 hk9 hn9 H locs ls hP hS hl)
theorem wb_obj (C : FrB G X cc nL own ret Ts ini) {idx q : Nat} (h1 : Cond.methodLink own idx Lib.objectInit ∈ Ts) (h2 : Cond.instanceMethod Lib.objectInit ∈ Ts) (h3 : Cond.code Lib.objectInit ⟨#[0xb1]⟩ 1 none ∈ Ts) (hR : 1 ≤ (KR X).frames ∧ (st.map fun v => v.category).sum + 12 ≤ (KR X).locals) (d : decode cc pc = .ok (.invokespecial idx, 3)) (k : Wb G X nL Qs a b (pc + 3) lv st n E) : Wb G X nL Qs a b pc lv (.ref q :: st) n E := by
  obtain ⟨p, e, R, s, m, args, below, meth, c⟩ := X
  obtain ⟨hx, hb, hml, hown, hts, hr, hlk, hKK, hin, hlo⟩ := C
  intro k9 n9 hk9 hn9 H locs ls hP hS hl
  have hR : 1 ≤ R.frames ∧ (st.map fun v => v.category).sum + 12 ≤ R.locals := hR
  exact W.objInit hx hb hown (hts _ h1) (hts _ h2) (hts _ h3) rfl (by rw [hml]; exact hl.1) rfl d hR.1 (by show 2 * 0 + _ + 12 ≤ _; omega) (k k9 n9 hk9 hn9 H locs ls hP hS hl)
theorem wb_newI (C : FrB G X cc nL own ret Ts ini) {z : Int} {N : Nat} (hz : z = (N : Int)) (hN : N ≤ 100000) (hw : Cond.arrayClass .int ∈ Ts) (d : decode cc pc = .ok (.newarray .int, 2)) {a' b' : Nat} (ha : 1 + a' = a) (hb9 : N + b' = b) (k : Wb G X nL Qs a' b' (pc + 2) lv (.ref (G.2.1 + n) :: st) (n + 1) (bup E n (.inl (G.2.2.2.1.1, (N, .inl (fun _ => iZ 0)))))) : Wb G X nL Qs a b pc lv (.int (iZ z) :: st) n E := by
  subst hz
  obtain ⟨p, e, R, s, m, args, below, meth, c⟩ := X
  obtain ⟨hx, hb, hml, hown, hts, hr, hlk, hKK, hin, hlo⟩ := C
  intro k9 n9 hk9 hn9 H locs ls hP hS hl
  have e0 : (iZ (N : Int)).toInt = (N : Int) := iZ_toInt (by omega)
  refine va_newaK (atype := .int) hx hb (hts _ hw) rfl d rfl (by rw [Int32.lt_iff_toInt_lt, e0]; show ¬ (N : Int) < 0; omega) (show ((iZ (N : Int)).toInt).toNat = N by rw [e0]; omega) (by show N * 4 ≤ _; omega) (by omega) (by omega) hP.1 (fun H1 cA e1 z1 o1 hA hnm => ?_)
  have hc : cA = G.2.2.2.1.1 := by
    have := (hKK.1.2 0 _ rfl).2
    exact Option.some.inj (hnm.symm.trans this)
  subst hc
  refine k (k9 + 1) (n9 + N) (by omega) (by omega) H1 locs ls (hP.push (by rw [z1, hP.1]) (fun q hq => o1 q (by rw [← hP.1]; exact hq)) e1) ⟨Nat.le_trans hS.1 (by rw [z1, hP.1]; omega), fun q h1 h2 => ?_, hS.2.2⟩ hl
  rw [o1 q (by rw [← hP.1]; exact Nat.lt_of_lt_of_le h1 hS.1)]
  exact hS.2.1 q h1 h2
theorem wb_newJ (C : FrB G X cc nL own ret Ts ini) {z : Int} {N : Nat} (hz : z = (N : Int)) (hN : N ≤ 50000) (hw : Cond.arrayClass .long ∈ Ts) (d : decode cc pc = .ok (.newarray .long, 2)) {a' b' : Nat} (ha : 1 + a' = a) (hb9 : N + b' = b) (k : Wb G X nL Qs a' b' (pc + 2) lv (.ref (G.2.1 + n) :: st) (n + 1) (bup E n (.inl (G.2.2.2.1.2.1, (N, .inr (.inl (fun _ => 0))))))) : Wb G X nL Qs a b pc lv (.int (iZ z) :: st) n E := by
  subst hz
  obtain ⟨p, e, R, s, m, args, below, meth, c⟩ := X
  obtain ⟨hx, hb, hml, hown, hts, hr, hlk, hKK, hin, hlo⟩ := C
  intro k9 n9 hk9 hn9 H locs ls hP hS hl
  have e0 : (iZ (N : Int)).toInt = (N : Int) := iZ_toInt (by omega)
  refine va_newaK (atype := .long) hx hb (hts _ hw) rfl d rfl (by rw [Int32.lt_iff_toInt_lt, e0]; show ¬ (N : Int) < 0; omega) (show ((iZ (N : Int)).toInt).toNat = N by rw [e0]; omega) (by show N * 8 ≤ _; omega) (by omega) (by omega) hP.1 (fun H1 cA e1 z1 o1 hA hnm => ?_)
  have hc : cA = G.2.2.2.1.2.1 := by
    have := (hKK.1.2 1 _ rfl).2
    exact Option.some.inj (hnm.symm.trans this)
  subst hc
  refine k (k9 + 1) (n9 + N) (by omega) (by omega) H1 locs ls (hP.push (by rw [z1, hP.1]) (fun q hq => o1 q (by rw [← hP.1]; exact hq)) e1) ⟨Nat.le_trans hS.1 (by rw [z1, hP.1]; omega), fun q h1 h2 => ?_, hS.2.2⟩ hl
  rw [o1 q (by rw [← hP.1]; exact Nat.lt_of_lt_of_le h1 hS.1)]
  exact hS.2.1 q h1 h2
/-- a final field of the object under construction -/
theorem wb_putF (C : FrB G X cc nL own ret Ts true) {o ci i idx : Nat} {fs : List Value} {v : Value} {fty : FieldType} (f : FLk Ts own idx ci i) (fq : FQk ci i own fty) (hE : E o = .inr (ci, fs)) (ho : o < n) (hnar : narrow fty v = v) (hfit : fits fty v = true) (hlen : i < fs.length) (d : decode cc pc = .ok (.putfield idx, 3)) (k : Wb G X nL Qs a b (pc + 3) lv st n (bup E o (.inr (ci, fs.set i v)))) : Wb G X nL Qs a b pc lv (v :: .ref (G.2.1 + o) :: st) n E := by
  obtain ⟨p, e, R, s, m, args, below, meth, c⟩ := X
  obtain ⟨hx, hb, hml, hown, hts, hr, hlk, hKK, hin0, hlo⟩ := C
  have hK := hKK.1
  intro k9 n9 hk9 hn9 H locs ls hP hS hl
  obtain ⟨Cn, T, N, ty, hc, hi, hin, hw, hty, hnm⟩ := f
  obtain ⟨hfin, hdecl, hd⟩ := fq _ _ _ hc
  have h3 := hP.2 o ho
  rw [hE] at h3
  have hap := va_apart (own := own) hts hin ty hty hnm hK hc
  obtain ⟨r, g1, cell, q1, q2, q3, q4⟩ := h3
  have hr9 : r = (Cn, T, N) := Option.some.inj (g1.symm.trans hc)
  subst hr9
  obtain ⟨hSl, hfc, kC, hkC, hkind⟩ := hK.1 ci _ hc
  obtain ⟨cf, kf, fi, f, hif, hsl⟩ := hSl i hi
  have hlay := hts _ (hin _ (u_in_lay hi))
  unfold u_lay at hlay
  rw [if_pos hfin] at hlay
  have hst := (u_facts hfc hkC (u_lays hts hin hi) hif).1
  have hcf : m.cls = cf := by
    obtain ⟨_, _, c', _, _, _, -, -, hf', -, -, -, hown2, -⟩ := Cond.laysFinal_spec hlay
    have e1 : c' = cf := by have := hif.symm.trans hf'; simp at this; exact this.1.symm
    rw [hdecl] at hown2
    rw [← e1]; exact Option.some.inj (hown.symm.trans hown2)
  have h6 := u_fits hfc hkC hkind (Or.inr hlay) hif hd hnar hfit
  refine W.putFinK hx hb hown (hts _ hw) hif hst hcf (hin0 rfl) (by rw [q2]; exact h6) q1 q3 (by rw [hsl]; exact k2_hasslot (q4 i hi)) rfl rfl d fun H' e1 e2 e3 => ?_
  rw [hsl] at e1 ⊢
  refine k k9 n9 hk9 hn9 H' _ ls (hP.put e2 e3 ⟨_, hc, t_OB.to (V := updV (vp_V fs) i v) ⟨_, e1, q2, q3, t_set q4 hap hi v⟩ (fun j _ => vp_updV_set hlen v j)⟩) (hS.put e2 e3 (by show G.2.1 ≤ _; exact Nat.le_add_right _ _)) hl
/-- a field that is not final -/
theorem wb_put (C : FrB G X cc nL own ret Ts ini) {o ci i idx : Nat} {fs : List Value} {v : Value} {fty : FieldType} (f : FLk Ts own idx ci i) (fp : FPk ci i fty) (hE : E o = .inr (ci, fs)) (ho : o < n) (hnar : narrow fty v = v) (hfit : fits fty v = true) (hlen : i < fs.length) (d : decode cc pc = .ok (.putfield idx, 3)) (k : Wb G X nL Qs a b (pc + 3) lv st n (bup E o (.inr (ci, fs.set i v)))) : Wb G X nL Qs a b pc lv (v :: .ref (G.2.1 + o) :: st) n E := by
  obtain ⟨p, e, R, s, m, args, below, meth, c⟩ := X
  obtain ⟨hx, hb, hml, hown, hts, hr, hlk, hKK, hin0, hlo⟩ := C
  have hK := hKK.1
  intro k9 n9 hk9 hn9 H locs ls hP hS hl
  obtain ⟨Cn, T, N, ty, hc, hi, hin, hw, hty, hnm⟩ := f
  obtain ⟨hfin, hd⟩ := fp _ _ _ hc
  have h3 := hP.2 o ho
  rw [hE] at h3
  have hap := va_apart (own := own) hts hin ty hty hnm hK hc
  obtain ⟨r, g1, cell, q1, q2, q3, q4⟩ := h3
  have hr9 : r = (Cn, T, N) := Option.some.inj (g1.symm.trans hc)
  subst hr9
  obtain ⟨hSl, hfc, kC, hkC, hkind⟩ := hK.1 ci _ hc
  obtain ⟨cf, kf, fi, f, hif, hsl⟩ := hSl i hi
  have hlay := hts _ (hin _ (u_in_lay hi))
  unfold u_lay at hlay
  rw [if_neg (by rw [hfin]; decide)] at hlay
  have hst := (u_facts hfc hkC (u_lays hts hin hi) hif).1
  have h6 := u_store hfc hkC hkind hlay hif hd hnar hfit
  refine W.putK hx hb (f := f) ⟨hown, hts _ hw, ⟨_, _, _, hif⟩, hst⟩ (by rw [q2]; exact h6) q1 q3 (by rw [hsl]; exact k2_hasslot (q4 i hi)) rfl rfl d fun H' e1 e2 e3 => ?_
  rw [hsl] at e1 ⊢
  refine k k9 n9 hk9 hn9 H' _ ls (hP.put e2 e3 ⟨_, hc, t_OB.to (V := updV (vp_V fs) i v) ⟨_, e1, q2, q3, t_set q4 hap hi v⟩ (fun j _ => vp_updV_set hlen v j)⟩) (hS.put e2 e3 (by show G.2.1 ≤ _; exact Nat.le_add_right _ _)) hl
theorem wb_vret (C : FrB G X cc nL own none Ts ini) (d : decode cc pc = .ok (.return_, 1)) : Wb G X nL (QsB9 G X n E) a b pc lv [] n E := by
  obtain ⟨p, e, R, s, m, args, below, meth, c⟩ := X
  obtain ⟨hx, hb, hml, hown, hts, hr, hlk, hKK, hin, hlo⟩ := C
  intro k9 n9 hk9 hn9 H locs ls hP hS hl
  refine mq_widen (k2 := R.cells) (n2 := R.slots) (by omega) (by omega) ?_
  exact W.vret hx hb hr (fun t ht hW => ⟨⟨rfl, by rw [ht]; exact hP⟩, hS.F ht⟩) hS.2.2 d hlk
/-- a new object -/
theorem wb_new (C : FrB G X cc nL own ret Ts ini) {ci idx N : Nat} {Cn : String} {T : u_T} {fs : List Value} (ty : Nat → FieldType) (hc : vwCl[ci]? = some (Cn, T, N)) (hin : ∀ w ∈ u_ws Cn T N, w ∈ Ts) (hty : ∀ k, k < N → parseFieldDescriptor (T k).2.2.1 = some (ty k)) (h1 : Cond.classLink own idx Cn ∈ Ts) (h2 : Cond.instantiable Cn N ∈ Ts) (h3 : Cond.initialized Cn ∈ Ts) (hfs : ∀ j, j < N → defaultValue (ty j) = vp_V fs j) (d : decode cc pc = .ok (.new idx, 3)) {a' b' : Nat} (ha : 1 + a' = a) (hb9 : N + b' = b) (k : Wb G X nL Qs a' b' (pc + 3) lv (.ref (G.2.1 + n) :: st) (n + 1) (bup E n (.inr (ci, fs)))) : Wb G X nL Qs a b pc lv st n E := by
  obtain ⟨p, e, R, s, m, args, below, meth, c⟩ := X
  obtain ⟨hx, hb, hml, hown, hts, hr, hlk, hKK, hin0, hlo⟩ := C
  intro k9 n9 hk9 hn9 H locs ls hP hS hl
  have hKn := hKK.1.1 ci _ hc
  refine W.newcK hx hb hown (hts _ h1) (hts _ h2) (hts _ h3) rfl d (by omega) (by omega) hKn.2.1 hP.1 fun H1 kC hkC e1 z1 o1 => ?_
  refine k (k9 + 1) (n9 + N) (by omega) (by omega) H1 locs ls (hP.push (by rw [z1, hP.1]) (fun q hq => o1 q (by rw [← hP.1]; exact hq)) ⟨_, hc, (u_born ty hts hin hKn hkC e1 hty).to hfs⟩) ⟨Nat.le_trans hS.1 (by rw [z1, hP.1]; omega), fun q g1 g2 => ?_, hS.2.2⟩ hl
  rw [o1 q (by rw [← hP.1]; exact Nat.lt_of_lt_of_le g1 hS.1)]
  exact hS.2.1 q g1 g2
theorem wb_dup (C : FrB G X cc nL own ret Ts ini) {q : Nat} (d : decode cc pc = .ok (.dup, 1)) (k : Wb G X nL Qs a b (pc + 1) lv (.ref q :: .ref q :: st) n E) : Wb G X nL Qs a b pc lv (.ref q :: st) n E := by
  obtain ⟨p, e, R, s, m, args, below, meth, c⟩ := X
  obtain ⟨hx, hb, hml, hown, hts, hr, hlk, hKK, hin, hlo⟩ := C
  intro k9 n9 hk9 hn9 H locs ls hP hS hl
  exact lv_dup hx hb d rfl (k k9 n9 hk9 hn9 H locs ls hP hS hl)
end WBR
