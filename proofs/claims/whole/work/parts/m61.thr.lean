/-! ===== throws: exceptions that leave a method of the class ===== -/
def xNs : List String := ["java/lang/RuntimeException", "java/lang/Exception"]
/-- the exceptions: their classes, their entries -/
def xcl (k : Nat) : String := match k with
  | 0 => "java/lang/IllegalArgumentException"
  | 1 => "java/lang/IndexOutOfBoundsException"
  | _ => "java/lang/IllegalStateException"
def xic (k : Nat) : Nat := match k with
  | 0 => 121
  | 1 => 292
  | _ => 110
def xik (k : Nat) : Nat := match k with
  | 0 => 117
  | 1 => 288
  | _ => 106
/-- the texts of the exceptions: their entries -/
def kStr : List (Nat × String) := [(108, "the buffer would exceed 800 bytes"), (119, "the buffer cannot have this length"), (129, "the text has an error"), (147, "the script has an error"), (257, "an error has the numbers 0 to 2"), (286, "the settings are 0 to 11"), (290, "no such vertex"), (293, "no such part"), (295, "no such group"), (303, "no such edge"), (313, "an edge has the numbers 0 to 3"), (352, "a part has the numbers 0 to 4"), (384, "a group has the numbers 0 to 3"), (437, "0 to 200 steps can be tried"), (444, "no such event"), (446, "an event has the numbers 0 to 3"), (451, "there is a reason against shrinking"), (460, "the level is 0"), (462, "there is a reason against the move"), (475, "1 to 99 steps can be made"), (477, "there are more than 7 groups"), (482, "the two vertices are the same"), (484, "there are not 2 parts, or the level is not 0"), (490, "a credit is 0 to 99"), (517, "no such byte of a report"), (526, "nothing was saved")]
/-- what stands fast and a throw asks for -/
def kzX (G : KG) (U : State) : Prop := G.1.1.stackTraces = false ∧ vx_Zq Bundle.tN "UNASSIGNED_STACK" Bundle.steD (KFr G) U U.heap ∧ vx_Zq Bundle.tN "SUPPRESSED_SENTINEL" Bundle.listD (KFr G) U U.heap ∧
  (∀ k, k < 3 → ∀ w ∈ (vx_atS RX11 (xic k) (xcl k) xNs).filter (fun w => !goodWord w), va_Nw w U) ∧ ∀ q ∈ kStr, ∃ sa, vk_R RX11 q.1 q.2 sa U
def KZx (G : KG) : Prop := ∀ U : State, G.1.2 U → kzX G U
def noTab (X : KX) : Prop := match X with
  | (_, _, _, _, _, _, _, _, c) => ∀ x ∈ c.exceptionTable.toList, False
def xcU (G : KG) (E : Nat → Sg → Prop) : String → State → State → Prop := fun cn st t => (∃ (k : Nat) (S' : Sg), cn = xcl k ∧ E k S' ∧ Pic G S' t.heap) ∧ va_F (KFr G) st t
/-- called with these arguments over this store, the method throws, and E holds of the exception's number and the store -/
def CtrX (G : KG) (y : MethodName) (ws : List Cond) (rm : Room) (Av : List Value) (S : Sg) (E : Nat → Sg → Prop) : Prop :=
  vx_Met G.1.1 y ws rm (va_Pc Av (fun U => Pic G S U.heap ∧ Kst G U ∧ G.2.1 ≤ U.heap.size)) (fun _ _ _ _ => False) (xcU G E) rm.cells rm.slots (KFr G)
def QsX (G : KG) (X : KX) (E : Nat → Sg → Prop) : State → Prop := match X with
  | (_, _, R, s, _, args, below, _, _) => vx_MQ below (fun _ _ _ _ => False) (xcU G E) args s R.cells R.slots (KFr G)
/-- what is thrown, over numbers -/
def QxE (E : Nat → Ii → Jj → Prop) : Nat → Sg → Prop := fun k S => E k S.1 S.2
theorem Pic.kept {G : KG} {S : Sg} {H H1 : Heap} (h : Pic G S H) (hq : ∀ q : Nat, q < H.size → H1[q]? = H[q]?) : Pic G S H1 := fun k e hk => (h k e hk).kept (hq _ (h k e hk).lt)
theorem CtrX.of {G : KG} {y : MethodName} {ws ws' : List Cond} {rm : Room} {Av : List Value} {S : Sg} {E : Nat → Sg → Prop} {cc : ByteArray} {nL : Nat} {ret : Option FieldType} (lv : List (Option Value)) (hG : Kok G) (hy : plainName y.cls = true) (hw : ws = Cond.code y cc nL ret :: ws') (hlen : (lg_sl Av).length ≤ nL) (hlv : lv.length ≤ nL) (hla : ∀ (i : Nat) (v : Value), lv[i]? = some (some v) → (i, v) ∈ lv_args 0 Av)
    (body : ∀ X : KX, KR X = rm → Fr G X cc nL y.cls ret ws → noTab X → Wm G X nL (QsX G X E) rm.cells rm.slots 0 lv [] S) : CtrX G y ws rm Av S E := by
  refine vx_ofW (cc := cc) (maxL := nL) (ret := ret) hy hw ?_
  intro p e s m args below meth c s₁ B hml ht hv
  obtain ⟨rfl, hP, hK, hsz⟩ := hv
  have hown : s.vm.findClass y.cls = some m.cls := findClass_of_methodNamed B.named
  rw [lg_entry_eq]
  exact body (p, e, rm, s, m, Av.toArray, below, meth, c) rfl ⟨B.exec, B.bytes, hml, hown, atoms_spec (ws := ws) B.pre, B.returns, B.notSynchronized, hK, hG, hsz⟩ ht 0 0 (by show 0 + rm.cells ≤ rm.cells; omega) (by show 0 + rm.slots ≤ rm.slots; omega) s.heap [] _ hP va_S.rf (lvD.of (lv_entry Av hlen) hlv hla)
theorem CtrX.ofZ {G : KG} {y : MethodName} {ws ws' : List Cond} {rm : Room} {Av : List Value} {I : Ii} {J : Jj} {E : Nat → Sg → Prop} {cc : ByteArray} {nL : Nat} {ret : Option FieldType} (lv : List (Option Value)) (hG : Kok G) (hy : plainName y.cls = true) (hw : ws = Cond.code y cc nL ret :: ws') (hlen : (lg_sl Av).length ≤ nL) (hlv : lv.length ≤ nL) (hla : ∀ q ∈ lvA 0 lv, q ∈ lv_args 0 Av)
    (body : ∀ X : KX, KR X = rm → Fr G X cc nL y.cls ret ws → noTab X → Wz G X nL (QsX G X E) rm.cells rm.slots 0 lv [] I J) : CtrX G y ws rm Av (I, J) E :=
  CtrX.of lv hG hy hw hlen hlv (fun i v h => hla (i, v) ((lvA_mem lv 0 (i, v)).mpr ⟨Nat.zero_le _, h⟩)) body
section WX
variable {G : KG} {X : KX} {nL : Nat} {a b pc : Nat} {lv : List (Option Value)} {st : List Value} {S : Sg} {I : Ii} {J : Jj} {cc : ByteArray} {own : String} {ret : Option FieldType} {Ts : List Cond} {E : Nat → Sg → Prop}
theorem x_fit {k : Nat} (hk : k < 3) : Bundle.fit (xcl k) = true := by
  have : k = 0 ∨ k = 1 ∨ k = 2 := by omega
  rcases this with rfl | rfl | rfl <;> decide +kernel
theorem x_good {k : Nat} (hk : k < 3) : ∀ w ∈ Cond.classLink RX11 (xik k) (xcl k) :: Cond.initialized (xcl k) :: vx_atS RX11 (xic k) (xcl k) xNs, vx_ot w = true := by
  have : k = 0 ∨ k = 1 ∨ k = 2 := by omega
  rcases this with rfl | rfl | rfl <;> exact List.all_eq_true.mp (by decide +kernel)
theorem x_tabs {k : Nat} (hk : k < 3) : ∀ w ∈ (vx_atS RX11 (xic k) (xcl k) xNs).filter (fun w => !goodWord w), w.onTables = true := by
  have : k = 0 ∨ k = 1 ∨ k = 2 := by omega
  rcases this with rfl | rfl | rfl <;> exact List.all_eq_true.mp (by decide +kernel)
theorem wx_throwS (C : Fr G X cc nL RX11 ret Ts) (hT : noTab X) (hZ : KZx G) (k : Nat) {is : Nat} {text : String} (hk : k < 3) (hstr : (is, text) ∈ kStr) (hkl : Cond.classLink RX11 (xik k) (xcl k) ∈ Ts) (hin : Cond.initialized (xcl k) ∈ Ts) (hat : ∀ w ∈ (vx_atS RX11 (xic k) (xcl k) xNs).filter goodWord, w ∈ Ts)
    (d0 : decode cc pc = .ok (.new (xik k), 3)) (d3 : decode cc (pc + 3) = .ok (.dup, 1)) (d4 : decode cc (pc + 4) = .ok (.ldc is, 2)) (d6 : decode cc (pc + 6) = .ok (.invokespecial (xic k), 3)) (d9 : decode cc (pc + 9) = .ok (.athrow, 1))
    (hRm : 5 < (KR X).frames ∧ (st.map fun v => v.category).sum + 82 ≤ (KR X).locals) (hq : E k S) : Wm G X nL (QsX G X E) 1 6 pc lv st S := by
  obtain ⟨p, e, R, s, m, args, below, meth, c⟩ := X
  obtain ⟨hx, hb, hml, hown, hts, hr, hlk, hKK, hG, hlo⟩ := C
  intro k9 n9 hk9 hn9 H locs ls hP hS hl
  obtain ⟨z1, z2, z3, z4, z5⟩ := hZ s hKK.2.2.1
  obtain ⟨sa, hsa⟩ := z5 _ hstr
  have hR : 5 < R.frames ∧ (st.map fun v => v.category).sum + 82 ≤ R.locals := hRm
  refine vx_throwS (A := KFr G) (own := RX11) (cls := xcl k) (text := text) (names := xNs) (ik := xik k) (is := is) (ic := xic k) (sa := sa) hx hb z1 hown (x_fit hk) (by decide +kernel) (hts _ hkl) (hts _ hin) hsa
    (vx_hat (B := (vx_atS RX11 (xic k) (xcl k) xNs).filter (fun w => !goodWord w)) (fun w hw => hts w (hat w hw)) (fun w hw => hw) (fun w hw => va_Nw.use (x_tabs hk w hw) (z4 k hk w hw))) (x_good hk) z2 z3 hS (by rw [hml]; exact hl.1) d0 d3 d4 d6 d9
    (fun x hx9 => False.elim (hT x hx9)) (by show 2 + 3 < R.frames; exact hR.1) (by show _ + (13 * (2 + 1) + 43) ≤ R.locals; exact hR.2) hk9 hn9 hlk (fun t hA hsz hq9 => ⟨⟨k, S, rfl, hq, hP.kept hq9⟩, ?_⟩) hS.2.2 hk9 hn9
  exact ⟨Nat.le_trans hS.1 hsz, fun q h1 h2 => by rw [hq9 q (Nat.lt_of_lt_of_le h1 hS.1)]; exact hS.2.1 q h1 h2⟩
theorem wx_throwSW (C : Fr G X cc nL RX11 ret Ts) (hT : noTab X) (hZ : KZx G) (k : Nat) {is : Nat} {text : String} (hk : k < 3) (hstr : (is, text) ∈ kStr) (hkl : Cond.classLink RX11 (xik k) (xcl k) ∈ Ts) (hin : Cond.initialized (xcl k) ∈ Ts) (hat : ∀ w ∈ (vx_atS RX11 (xic k) (xcl k) xNs).filter goodWord, w ∈ Ts)
    (d0 : decode cc pc = .ok (.new (xik k), 3)) (d3 : decode cc (pc + 3) = .ok (.dup, 1)) (d4 : decode cc (pc + 4) = .ok (.ldc_w is, 3)) (d7 : decode cc (pc + 7) = .ok (.invokespecial (xic k), 3)) (d10 : decode cc (pc + 10) = .ok (.athrow, 1))
    (hRm : 5 < (KR X).frames ∧ (st.map fun v => v.category).sum + 82 ≤ (KR X).locals) (hq : E k S) : Wm G X nL (QsX G X E) 1 6 pc lv st S := by
  obtain ⟨p, e, R, s, m, args, below, meth, c⟩ := X
  obtain ⟨hx, hb, hml, hown, hts, hr, hlk, hKK, hG, hlo⟩ := C
  intro k9 n9 hk9 hn9 H locs ls hP hS hl
  obtain ⟨z1, z2, z3, z4, z5⟩ := hZ s hKK.2.2.1
  obtain ⟨sa, hsa⟩ := z5 _ hstr
  have hR : 5 < R.frames ∧ (st.map fun v => v.category).sum + 82 ≤ R.locals := hRm
  refine vx_throwSW (A := KFr G) (own := RX11) (cls := xcl k) (text := text) (names := xNs) (ik := xik k) (is := is) (ic := xic k) (sa := sa) hx hb z1 hown (x_fit hk) (by decide +kernel) (hts _ hkl) (hts _ hin) hsa
    (vx_hat (B := (vx_atS RX11 (xic k) (xcl k) xNs).filter (fun w => !goodWord w)) (fun w hw => hts w (hat w hw)) (fun w hw => hw) (fun w hw => va_Nw.use (x_tabs hk w hw) (z4 k hk w hw))) (x_good hk) z2 z3 hS (by rw [hml]; exact hl.1) d0 d3 d4 d7 d10
    (fun x hx9 => False.elim (hT x hx9)) (by show 2 + 3 < R.frames; exact hR.1) (by show _ + (13 * (2 + 1) + 43) ≤ R.locals; exact hR.2) hk9 hn9 hlk (fun t hA hsz hq9 => ⟨⟨k, S, rfl, hq, hP.kept hq9⟩, ?_⟩) hS.2.2 hk9 hn9
  exact ⟨Nat.le_trans hS.1 hsz, fun q h1 h2 => by rw [hq9 q (Nat.lt_of_lt_of_le h1 hS.1)]; exact hS.2.1 q h1 h2⟩
theorem wx_callV (C : Fr G X cc nL own ret Ts) (hT : noTab X) {y : MethodName} {bytes : ByteArray} {maxL idx : Nat} {yret : Option FieldType} {ws ws' : List Cond} {rm : Room} {As st0 : List Value} {o ci : Nat} {ks : List Nat} {Cn : String} {T : u_T} {N : Nat} (hs : shp o = some (.inl (ci, ks))) (hcl : vwCl[ci]? = some (Cn, T, N)) (h : CtrX G y ws rm (.ref (kadr G o) :: As) S E) (n : Nat) (g : GoodIn Ts (wsV own idx Cn y ws)) (hw : ws = Cond.code y bytes maxL yret :: ws') (hd : y.cls = Cn ∧ y.cls ≠ "java/lang/invoke/MethodHandle" ∧ y.cls ≠ "java/lang/invoke/VarHandle" ∧ (parseMethodDescriptor y.desc).map (fun d => d.parameters.length) = some n) (hR : rm.frames + 1 ≤ (KR X).frames ∧ 8 + (maxL + 11) + rm.locals ≤ (KR X).locals) (hn : As.length = n) (hc : (st.map fun v => v.category).sum ≤ 8) (hca : rm.cells ≤ a) (hcb : rm.slots ≤ b) (hst : st0 = As.reverse ++ .ref (kadr G o) :: st) (d : decode cc pc = .ok (.invokevirtual idx, 3)) : Wm G X nL (QsX G X E) a b pc lv st0 S := by
  subst hst
  obtain ⟨p, e, R, s, m, args, below, meth, c⟩ := X
  obtain ⟨hx, hb, hml, hown, hts, hr, hlk, hKK, hG, hlo⟩ := C
  intro k9 n9 hk9 hn9 H locs ls hP hS hl
  have hf : k9 + rm.cells ≤ R.cells ∧ n9 + rm.slots ≤ R.slots := by constructor <;> omega
  have hR : rm.frames + 1 ≤ R.frames ∧ 8 + (maxL + 11) + rm.locals ≤ R.locals := hR
  have hrun := vx_runV (p := p) (e := e) (As := As) (rest := st) (H := H) (locs := locs) (cells := k9) (slots := n9) (below := below) (meth := meth) (g := F0 m pc ls (As.reverse ++ .ref (kadr G o) :: st)) ⟨hx, hb, hml, hown, hts⟩ h (cwV n hts g hw rfl rfl hd hR) ⟨frameBlind_pc, krecv hs hcl hP hKK, kpre hP hKK hlo hS⟩ rfl hn hl.1 rfl (lv_room hc) d hf
  intro T9 hT9 X9
  rcases hrun T9 hT9 X9 with ⟨v, st₀, t, T', L, h0, X', hL, e1, e2, hq, st9⟩ | ⟨q, st₀, t, T', L, E9, ce, h0, X', hL, e1, e2, ⟨⟨k, S', hkE, hE, hPic⟩, hF⟩, hce, hcv, hcl9, stp⟩
  · exact False.elim hq
  · have keep := vx_keep (A0 := KFr G) (A1 := KFr G) h0 e1 hS (fun q _ z => z) (fun q z => z) hL hF
    obtain ⟨t2, a1, b1⟩ := vx_out (p := p) (l := G.1.1) (e := e) (R := R) (args := args) (below := below) (rest := st) (ls := ls) (pc := pc) (H := T'.heap) (locs := locs ++ L) (cells := k9 + rm.cells) (slots := n9 + rm.slots) (mc := R.cells) (ms := R.slots) (free := KFr G) (Qc := fun _ _ _ _ => False) (XC := xcU G E) (fun x hx9 => False.elim (hT x hx9)) hlk (by rw [e1]; exact hce) hcv hcl9 (fun t ht hA => ⟨⟨k, S', hkE, hE, by rw [ht, e1]; exact hPic⟩, keep.2.2.F ht⟩) keep.2.2.2.2 hf.1 hf.2 T' rfl X'
    exact ⟨t2, stp.trans a1, b1⟩
end WX
