/-! ===== the law's callers ===== -/
def xtab (X : KX) : List ExceptionTableEntry := match X with
  | (_, _, _, _, _, _, _, _, c) => c.exceptionTable.toList
/-- a method with handlers: its contract out of its run -/
theorem Ctr.ofH {G : KG} {y : MethodName} {ws ws' : List Cond} {rm : Room} {Av : List Value} {I : Ii} {J : Jj} {Q : Option Value → Sg → Prop} {cc : ByteArray} {nL : Nat} {ret : Option FieldType} {hh : List (Nat × Nat × Nat × Nat)} (lv : List (Option Value)) (hG : Kok G) (hy : plainName y.cls = true) (hw : ws = Cond.codeWith y cc nL ret hh :: ws') (hlen : (lg_sl Av).length ≤ nL) (hlv : lv.length ≤ nL) (hla : ∀ q ∈ lvA 0 lv, q ∈ lv_args 0 Av)
    (body : ∀ X : KX, KR X = rm → Fr G X cc nL y.cls ret ws → xtab X = tableOf hh → Wz G X nL (QsU G X Q) rm.cells rm.slots 0 lv [] I J) : Ctr G y ws rm Av (I, J) Q := by
  refine va_MetW (cc := cc) (maxL := nL) (ret := ret) (hh := hh) hy hw ?_
  intro p e s m args below meth c s₁ B hml hv
  obtain ⟨rfl, hP, hK, hsz⟩ := hv
  have hown : s.vm.findClass y.cls = some m.cls := findClass_of_methodNamed B.named
  have htab := vx_table (x := y) B (atoms_spec (ws := ws) B.pre _ (by rw [hw]; exact List.mem_cons_self))
  rw [lg_entry_eq]
  exact body (p, e, rm, s, m, Av.toArray, below, meth, c) rfl ⟨B.exec, B.bytes, hml, hown, atoms_spec (ws := ws) B.pre, B.returns, B.notSynchronized, hK, hG, hsz⟩ htab 0 0 (by show 0 + rm.cells ≤ rm.cells; omega) (by show 0 + rm.slots ≤ rm.slots; omega) s.heap [] _ hP va_S.rf (lvD.of (lv_entry Av hlen) hlv (fun i v h => hla (i, v) ((lvA_mem lv 0 (i, v)).mpr ⟨Nat.zero_le _, h⟩)))
/-- which of the exceptions is which -/
def kcX (U : State) : Prop := (∀ k, k < 3 → va_Nw (.castable (xcl k) (xcl k)) U) ∧ ∀ k k', k < 3 → k' < 3 → k ≠ k' → va_Nc (xcl k) (xcl k') U
def KCx (G : KG) : Prop := ∀ U : State, G.1.2 U → kcX U
section WL9
variable {G : KG} {X : KX} {nL : Nat} {Qs : State → Prop} {a b pc : Nat} {lv : List (Option Value)} {st : List Value} {S : Sg} {cc : ByteArray} {own : String} {ret : Option FieldType} {Ts : List Cond} {E : Nat → Sg → Prop}
/-- a call that throws; caught here -/
theorem wl_callX (C : Fr G X cc nL own ret Ts) (hC : KCx G) {y : MethodName} {bytes : ByteArray} {maxL idx a' b' : Nat} {yret : Option FieldType} {ws ws' : List Cond} {rm : Room} {As st0 : List Value} {o ci : Nat} {ks : List Nat} {Cn : String} {T : u_T} {N : Nat} (hs : shp o = some (.inl (ci, ks))) (hcl : vwCl[ci]? = some (Cn, T, N)) (h : CtrX G y ws rm (.ref (kadr G o) :: As) S E) (n : Nat) (g : GoodIn Ts (wsV own idx Cn y ws)) (hw : ws = Cond.code y bytes maxL yret :: ws') (hd : y.cls = Cn ∧ y.cls ≠ "java/lang/invoke/MethodHandle" ∧ y.cls ≠ "java/lang/invoke/VarHandle" ∧ (parseMethodDescriptor y.desc).map (fun d => d.parameters.length) = some n) (hR : rm.frames + 1 ≤ (KR X).frames ∧ 8 + (maxL + 11) + rm.locals ≤ (KR X).locals) (hn : As.length = n) (hc : (st.map fun v => v.category).sum ≤ 8) (hca : rm.cells + a' = a) (hcb : rm.slots + b' = b) (hst : st0 = As.reverse ++ .ref (kadr G o) :: st) (d : decode cc pc = .ok (.invokevirtual idx, 3))
    (kx : ∀ k S', E k S' → ∃ (pre : List ExceptionTableEntry) (x : ExceptionTableEntry) (suf : List ExceptionTableEntry), xtab X = pre ++ x :: suf ∧ covers x pc = true ∧ x.catchType ≠ 0 ∧ k < 3 ∧ Cond.classLink own x.catchType (xcl k) ∈ Ts ∧ (∀ z ∈ pre, z.catchType ≠ 0 ∧ ∃ k', k' < 3 ∧ k ≠ k' ∧ Cond.classLink own z.catchType (xcl k') ∈ Ts) ∧ ∀ q : Nat, Wm G X nL Qs a' b' x.handlerPc lv [.ref q] S') : Wm G X nL Qs a b pc lv st0 S := by
  subst hst
  obtain ⟨p, e, R, s, m, args, below, meth, c⟩ := X
  obtain ⟨hx, hb, hml, hown, hts, hr, hlk, hKK, hG, hlo⟩ := C
  intro k9 n9 hk9 hn9 H locs ls hP hS hl
  have hf : k9 + rm.cells ≤ R.cells ∧ n9 + rm.slots ≤ R.slots := by constructor <;> omega
  have hR : rm.frames + 1 ≤ R.frames ∧ 8 + (maxL + 11) + rm.locals ≤ R.locals := hR
  have hrun := vx_runV (p := p) (e := e) (As := As) (rest := st) (H := H) (locs := locs) (cells := k9) (slots := n9) (below := below) (meth := meth) (g := F0 m pc ls (As.reverse ++ .ref (kadr G o) :: st)) ⟨hx, hb, hml, hown, hts⟩ h (cwV n hts g hw rfl rfl hd hR) ⟨frameBlind_pc, krecv hs hcl hP hKK, kpre hP hKK hlo hS⟩ rfl hn hl.1 rfl (lv_room hc) d hf
  intro T9 hT9 X9
  rcases hrun T9 hT9 X9 with ⟨v, st₀, t, T', L, h0, X', hL, e1, e2, hq, st9⟩ | ⟨q, st₀, t, T', L, E9, ce, h0, X', hL, e1, e2, ⟨⟨k, S', hkE, hE, hPic⟩, hF⟩, hce, hcv, hcl9, stp⟩
  · exact False.elim hq
  · have keep := vx_keep (A0 := KFr G) (A1 := KFr G) h0 e1 hS (fun q _ z => z) (fun q z => z) hL hF
    obtain ⟨pre, x, suf, hsp, hcov, hct, hk3, hlk3, hpre, hkk⟩ := kx k S' hE
    obtain ⟨cst, cnc⟩ := hC s hKK.2.2.1
    subst hkE
    obtain ⟨t2, a1, b1⟩ := vx_catch (p := p) (l := G.1.1) (e := e) (R := R) (args := args) (below := below) (rest := st) (ls := ls) (pc := pc) (H := T'.heap) (locs := locs ++ L) (cells := k9 + rm.cells) (slots := n9 + rm.slots) (Q := Qs) (own := own) (name := xcl k) (E := xcl k) (ce := ce) (q := q) hown pre x suf hsp (fun z hz => by
      obtain ⟨z0, k', z1, z2, z3⟩ := hpre z hz
      exact Or.inr ⟨z0, xcl k', hts _ z3, cnc k k' hk3 z1 z2⟩) hcov hct (hts _ hlk3) (va_Nw.use rfl (cst k hk3)) (by rw [e1]; exact hce) hcv hcl9
      (hkk q (k9 + rm.cells) (n9 + rm.slots) (by omega) (by omega) T'.heap (locs ++ L) ls (by rw [e1]; exact hPic) keep.2.2 hl) T' rfl X'
    exact ⟨t2, stp.trans a1, b1⟩
end WL9
def rmL : Room := { frames := 10, cells := 1, slots := 6, locals := 330 }
/-- what a caller leaves: an answer, or an exception's number -/
def LQ (E : Nat → Ii → Jj → Prop) (Q : Int → Ii → Jj → Prop) (cd : Nat → Int) : Int → Ii → Jj → Prop := fun v I' J' => (v = 0 ∧ ∃ (r : Int) (J1 : Jj), Q r I' J1 ∧ J' = up2 J1 50 0 (i2lZ r)) ∨ ∃ k, cd k ≠ 0 ∧ v = cd k ∧ E k I' J'

set_option maxHeartbeats 4000000 in
set_option maxRecDepth 100000 in
theorem kL_feed (G : KG) (hG : Kok G) (hZ : KZx G) (hC : KCx G) (x1 : Int) (x2 : Int) (x3 : Int) (x4 : Int) (x5 : Int) (I : Ii) (J : Jj) (E : Nat → Ii → Jj → Prop) (Q : Int → Ii → Jj → Prop) (h : wpx_X11_feed x1 x2 x3 x4 x5 I J E Q) (hE : ∀ k I J, E k I J → cdS k ≠ 0) : Ctr G yL_feed wsL_feed rmL [.ref (kadr G 100), .int (iZ x1), .int (iZ x2), .int (iZ x3), .int (iZ x4), .int (iZ x5), .ref (kadr G 50)] (I, J) (QsI (LQ E Q cdS)) := by
  refine Ctr.ofH (cc := cL_feed) (nL := 8) (ret := (some .int)) [some (.ref (kadr G 100)), some (.int (iZ x1)), some (.int (iZ x2)), some (.int (iZ x3)), some (.int (iZ x4)), some (.int (iZ x5)), some (.ref (kadr G 50)), none] hG (by decide +kernel) rfl (Nat.le_of_ble_eq_true rfl) (Nat.le_of_ble_eq_true rfl) (by simp [lvA, lv_args, Value.category]) ?_
  intro X hX C htab
  refine wz_aload C rfl dL_feed_0 ?_
  refine wz_iconst C dL_feed_2 ?_
  refine wz_aload_n C rfl rfl dL_feed_3 ?_
  refine wz_iload_n C rfl rfl dL_feed_4 ?_
  refine wz_iload_n C rfl rfl dL_feed_5 ?_
  refine wz_iload_n C rfl rfl dL_feed_6 ?_
  refine wz_iload C rfl dL_feed_7 ?_
  refine wz_iload C rfl dL_feed_9 ?_
  rcases h with h | h
  · refine wl_callX C hC (o := 100) (As := [.int (iZ x1), .int (iZ x2), .int (iZ x3), .int (iZ x4), .int (iZ x5)]) (st := [.int (iZ 0), .ref (kadr G 50)]) (a' := 0) (b' := 0) rfl rfl (kx_X11_feed G hG hZ x1 x2 x3 x4 x5 I J _ h) 5 gL_feed_X11_feed rfl (by decide +kernel) (by rw [hX]; exact ⟨Nat.le_of_ble_eq_true rfl, Nat.le_of_ble_eq_true rfl⟩) rfl (Nat.le_of_ble_eq_true rfl) rfl rfl rfl dL_feed_11 (fun k S' hk => ?_)
    obtain ⟨I1, J1⟩ := S'
    have hk : E k I1 J1 := hk
    have hk0 := hE _ _ _ hk
    by_cases c0 : k = 2
    · subst c0
      refine ⟨[], ⟨0, 16, 19, 13⟩, [], htab.trans rfl, by decide +kernel, by decide, by decide, by decide +kernel, (fun z hz => absurd hz (by simp)), fun q => ?_⟩
      refine wz_astore_7 C rfl dL_feed_19 ?_
      refine wz_iconst C dL_feed_21 ?_
      exact wz_iret C dL_feed_22 ⟨_, rfl, Or.inr ⟨2, by decide, rfl, hk⟩⟩
    exact absurd (show cdS k = 0 from by
      unfold cdS
      split <;> first | rfl | omega) hk0
  · refine wm_callV C (o := 100) (As := [.int (iZ x1), .int (iZ x2), .int (iZ x3), .int (iZ x4), .int (iZ x5)]) (st := [.int (iZ 0), .ref (kadr G 50)]) (a' := 1) (b' := 6) rfl rfl (k_X11_feed G hG x1 x2 x3 x4 x5 I J _ h) 5 gL_feed_X11_feed rfl (by decide +kernel) (by rw [hX]; exact ⟨Nat.le_of_ble_eq_true rfl, Nat.le_of_ble_eq_true rfl⟩) rfl (Nat.le_of_ble_eq_true rfl) rfl rfl rfl dL_feed_11 (kk_sI (fun v I1 J1 h => ?_))
    refine wd_i2l C dL_feed_14 ?_
    refine wd_lastore C 0 rfl rfl (by decide) (by decide) dL_feed_15 (fun J2 eJ => ?_)
    refine wz_goto C dL_feed_16 (tgt := 23) (by decide) ?_
    refine wz_iconst C dL_feed_23 ?_
    exact wz_iret C dL_feed_24 ⟨_, rfl, Or.inl ⟨rfl, v, J1, h, eJ⟩⟩
set_option maxHeartbeats 4000000 in
set_option maxRecDepth 100000 in
theorem kL_truncate (G : KG) (hG : Kok G) (hZ : KZx G) (hC : KCx G) (x1 : Int) (I : Ii) (J : Jj) (E : Nat → Ii → Jj → Prop) (Q : Int → Ii → Jj → Prop) (h : wpx_X11_truncate x1 I J E Q) (hE : ∀ k I J, E k I J → cdI k ≠ 0) : Ctr G yL_truncate wsL_truncate rmL [.ref (kadr G 100), .int (iZ x1), .ref (kadr G 50)] (I, J) (QsI (LQ E Q cdI)) := by
  refine Ctr.ofH (cc := cL_truncate) (nL := 4) (ret := (some .int)) [some (.ref (kadr G 100)), some (.int (iZ x1)), some (.ref (kadr G 50)), none] hG (by decide +kernel) rfl (Nat.le_of_ble_eq_true rfl) (Nat.le_of_ble_eq_true rfl) (by simp [lvA, lv_args, Value.category]) ?_
  intro X hX C htab
  refine wz_aload_n C rfl rfl dL_truncate_0 ?_
  refine wz_iconst C dL_truncate_1 ?_
  refine wz_aload_n C rfl rfl dL_truncate_2 ?_
  refine wz_iload_n C rfl rfl dL_truncate_3 ?_
  rcases h with h | h
  · refine wl_callX C hC (o := 100) (As := [.int (iZ x1)]) (st := [.int (iZ 0), .ref (kadr G 50)]) (a' := 0) (b' := 0) rfl rfl (kx_X11_truncate G hG hZ x1 I J _ h) 1 gL_truncate_X11_truncate rfl (by decide +kernel) (by rw [hX]; exact ⟨Nat.le_of_ble_eq_true rfl, Nat.le_of_ble_eq_true rfl⟩) rfl (Nat.le_of_ble_eq_true rfl) rfl rfl rfl dL_truncate_4 (fun k S' hk => ?_)
    obtain ⟨I1, J1⟩ := S'
    have hk : E k I1 J1 := hk
    have hk0 := hE _ _ _ hk
    by_cases c0 : k = 0
    · subst c0
      refine ⟨[], ⟨0, 9, 12, 19⟩, [], htab.trans rfl, by decide +kernel, by decide, by decide, by decide +kernel, (fun z hz => absurd hz (by simp)), fun q => ?_⟩
      refine wz_astore_3 C rfl dL_truncate_12 ?_
      refine wz_iconst C dL_truncate_13 ?_
      exact wz_iret C dL_truncate_14 ⟨_, rfl, Or.inr ⟨0, by decide, rfl, hk⟩⟩
    exact absurd (show cdI k = 0 from by
      unfold cdI
      split <;> first | rfl | omega) hk0
  · refine wm_callV C (o := 100) (As := [.int (iZ x1)]) (st := [.int (iZ 0), .ref (kadr G 50)]) (a' := 1) (b' := 6) rfl rfl (k_X11_truncate G hG x1 I J _ h) 1 gL_truncate_X11_truncate rfl (by decide +kernel) (by rw [hX]; exact ⟨Nat.le_of_ble_eq_true rfl, Nat.le_of_ble_eq_true rfl⟩) rfl (Nat.le_of_ble_eq_true rfl) rfl rfl rfl dL_truncate_4 (kk_sI (fun v I1 J1 h => ?_))
    refine wd_i2l C dL_truncate_7 ?_
    refine wd_lastore C 0 rfl rfl (by decide) (by decide) dL_truncate_8 (fun J2 eJ => ?_)
    refine wz_goto C dL_truncate_9 (tgt := 15) (by decide) ?_
    refine wz_iconst C dL_truncate_15 ?_
    exact wz_iret C dL_truncate_16 ⟨_, rfl, Or.inl ⟨rfl, v, J1, h, eJ⟩⟩
set_option maxHeartbeats 4000000 in
set_option maxRecDepth 100000 in
theorem kL_readText (G : KG) (hG : Kok G) (hW : KSx G) (hZ : KZx G) (hC : KCx G) (I : Ii) (J : Jj) (E : Nat → Ii → Jj → Prop) (Q : Int → Ii → Jj → Prop) (h : wpx_X11_readText I J E Q) (hE : ∀ k I J, E k I J → cdI k ≠ 0) : Ctr G yL_readText wsL_readText rmL [.ref (kadr G 100), .ref (kadr G 50)] (I, J) (QsI (LQ E Q cdI)) := by
  refine Ctr.ofH (cc := cL_readText) (nL := 3) (ret := (some .int)) [some (.ref (kadr G 100)), some (.ref (kadr G 50)), none] hG (by decide +kernel) rfl (Nat.le_of_ble_eq_true rfl) (Nat.le_of_ble_eq_true rfl) (by simp [lvA, lv_args, Value.category]) ?_
  intro X hX C htab
  refine wz_aload_n C rfl rfl dL_readText_0 ?_
  refine wz_iconst C dL_readText_1 ?_
  refine wz_aload_n C rfl rfl dL_readText_2 ?_
  rcases h with h | h
  · refine wl_callX C hC (o := 100) (As := []) (st := [.int (iZ 0), .ref (kadr G 50)]) (a' := 0) (b' := 0) rfl rfl (kx_X11_readText G hG hW hZ I J _ h) 0 gL_readText_X11_readText rfl (by decide +kernel) (by rw [hX]; exact ⟨Nat.le_of_ble_eq_true rfl, Nat.le_of_ble_eq_true rfl⟩) rfl (Nat.le_of_ble_eq_true rfl) rfl rfl rfl dL_readText_3 (fun k S' hk => ?_)
    obtain ⟨I1, J1⟩ := S'
    have hk : E k I1 J1 := hk
    have hk0 := hE _ _ _ hk
    by_cases c0 : k = 0
    · subst c0
      refine ⟨[], ⟨0, 8, 11, 19⟩, [], htab.trans rfl, by decide +kernel, by decide, by decide, by decide +kernel, (fun z hz => absurd hz (by simp)), fun q => ?_⟩
      refine wz_astore_2 C rfl dL_readText_11 ?_
      refine wz_iconst C dL_readText_12 ?_
      exact wz_iret C dL_readText_13 ⟨_, rfl, Or.inr ⟨0, by decide, rfl, hk⟩⟩
    exact absurd (show cdI k = 0 from by
      unfold cdI
      split <;> first | rfl | omega) hk0
  · refine wm_callV C (o := 100) (As := []) (st := [.int (iZ 0), .ref (kadr G 50)]) (a' := 1) (b' := 6) rfl rfl (k_X11_readText G hG hW I J _ h) 0 gL_readText_X11_readText rfl (by decide +kernel) (by rw [hX]; exact ⟨Nat.le_of_ble_eq_true rfl, Nat.le_of_ble_eq_true rfl⟩) rfl (Nat.le_of_ble_eq_true rfl) rfl rfl rfl dL_readText_3 (kk_sI (fun v I1 J1 h => ?_))
    refine wd_i2l C dL_readText_6 ?_
    refine wd_lastore C 0 rfl rfl (by decide) (by decide) dL_readText_7 (fun J2 eJ => ?_)
    refine wz_goto C dL_readText_8 (tgt := 14) (by decide) ?_
    refine wz_iconst C dL_readText_14 ?_
    exact wz_iret C dL_readText_15 ⟨_, rfl, Or.inl ⟨rfl, v, J1, h, eJ⟩⟩
set_option maxHeartbeats 4000000 in
set_option maxRecDepth 100000 in
theorem kL_runScript (G : KG) (hG : Kok G) (hW : KSx G) (hZ : KZx G) (hC : KCx G) (I : Ii) (J : Jj) (E : Nat → Ii → Jj → Prop) (Q : Int → Ii → Jj → Prop) (h : wpx_X11_runScript I J E Q) (hE : ∀ k I J, E k I J → cdI k ≠ 0) : Ctr G yL_runScript wsL_runScript rmL [.ref (kadr G 100), .ref (kadr G 50)] (I, J) (QsI (LQ E Q cdI)) := by
  refine Ctr.ofH (cc := cL_runScript) (nL := 3) (ret := (some .int)) [some (.ref (kadr G 100)), some (.ref (kadr G 50)), none] hG (by decide +kernel) rfl (Nat.le_of_ble_eq_true rfl) (Nat.le_of_ble_eq_true rfl) (by simp [lvA, lv_args, Value.category]) ?_
  intro X hX C htab
  refine wz_aload_n C rfl rfl dL_runScript_0 ?_
  refine wz_iconst C dL_runScript_1 ?_
  refine wz_aload_n C rfl rfl dL_runScript_2 ?_
  rcases h with h | h
  · refine wl_callX C hC (o := 100) (As := []) (st := [.int (iZ 0), .ref (kadr G 50)]) (a' := 0) (b' := 0) rfl rfl (kx_X11_runScript G hG hW hZ I J _ h) 0 gL_runScript_X11_runScript rfl (by decide +kernel) (by rw [hX]; exact ⟨Nat.le_of_ble_eq_true rfl, Nat.le_of_ble_eq_true rfl⟩) rfl (Nat.le_of_ble_eq_true rfl) rfl rfl rfl dL_runScript_3 (fun k S' hk => ?_)
    obtain ⟨I1, J1⟩ := S'
    have hk : E k I1 J1 := hk
    have hk0 := hE _ _ _ hk
    by_cases c0 : k = 0
    · subst c0
      refine ⟨[], ⟨0, 8, 11, 19⟩, [], htab.trans rfl, by decide +kernel, by decide, by decide, by decide +kernel, (fun z hz => absurd hz (by simp)), fun q => ?_⟩
      refine wz_astore_2 C rfl dL_runScript_11 ?_
      refine wz_iconst C dL_runScript_12 ?_
      exact wz_iret C dL_runScript_13 ⟨_, rfl, Or.inr ⟨0, by decide, rfl, hk⟩⟩
    exact absurd (show cdI k = 0 from by
      unfold cdI
      split <;> first | rfl | omega) hk0
  · refine wm_callV C (o := 100) (As := []) (st := [.int (iZ 0), .ref (kadr G 50)]) (a' := 1) (b' := 6) rfl rfl (k_X11_runScript G hG hW I J _ h) 0 gL_runScript_X11_runScript rfl (by decide +kernel) (by rw [hX]; exact ⟨Nat.le_of_ble_eq_true rfl, Nat.le_of_ble_eq_true rfl⟩) rfl (Nat.le_of_ble_eq_true rfl) rfl rfl rfl dL_runScript_3 (kk_sI (fun v I1 J1 h => ?_))
    refine wd_i2l C dL_runScript_6 ?_
    refine wd_lastore C 0 rfl rfl (by decide) (by decide) dL_runScript_7 (fun J2 eJ => ?_)
    refine wz_goto C dL_runScript_8 (tgt := 14) (by decide) ?_
    refine wz_iconst C dL_runScript_14 ?_
    exact wz_iret C dL_runScript_15 ⟨_, rfl, Or.inl ⟨rfl, v, J1, h, eJ⟩⟩
set_option maxHeartbeats 4000000 in
set_option maxRecDepth 100000 in
theorem kL_error (G : KG) (hG : Kok G) (hZ : KZx G) (hC : KCx G) (x1 : Int) (I : Ii) (J : Jj) (E : Nat → Ii → Jj → Prop) (Q : Int → Ii → Jj → Prop) (h : wpx_X11_error x1 I J E Q) (hE : ∀ k I J, E k I J → cdI k ≠ 0) : Ctr G yL_error wsL_error rmL [.ref (kadr G 100), .int (iZ x1), .ref (kadr G 50)] (I, J) (QsI (LQ E Q cdI)) := by
  refine Ctr.ofH (cc := cL_error) (nL := 4) (ret := (some .int)) [some (.ref (kadr G 100)), some (.int (iZ x1)), some (.ref (kadr G 50)), none] hG (by decide +kernel) rfl (Nat.le_of_ble_eq_true rfl) (Nat.le_of_ble_eq_true rfl) (by simp [lvA, lv_args, Value.category]) ?_
  intro X hX C htab
  refine wz_aload_n C rfl rfl dL_error_0 ?_
  refine wz_iconst C dL_error_1 ?_
  refine wz_aload_n C rfl rfl dL_error_2 ?_
  refine wz_iload_n C rfl rfl dL_error_3 ?_
  rcases h with h | h
  · refine wl_callX C hC (o := 100) (As := [.int (iZ x1)]) (st := [.int (iZ 0), .ref (kadr G 50)]) (a' := 0) (b' := 0) rfl rfl (kx_X11_error G hG hZ x1 I J _ h) 1 gL_error_X11_error rfl (by decide +kernel) (by rw [hX]; exact ⟨Nat.le_of_ble_eq_true rfl, Nat.le_of_ble_eq_true rfl⟩) rfl (Nat.le_of_ble_eq_true rfl) rfl rfl rfl dL_error_4 (fun k S' hk => ?_)
    obtain ⟨I1, J1⟩ := S'
    have hk : E k I1 J1 := hk
    have hk0 := hE _ _ _ hk
    by_cases c0 : k = 0
    · subst c0
      refine ⟨[], ⟨0, 9, 12, 19⟩, [], htab.trans rfl, by decide +kernel, by decide, by decide, by decide +kernel, (fun z hz => absurd hz (by simp)), fun q => ?_⟩
      refine wz_astore_3 C rfl dL_error_12 ?_
      refine wz_iconst C dL_error_13 ?_
      exact wz_iret C dL_error_14 ⟨_, rfl, Or.inr ⟨0, by decide, rfl, hk⟩⟩
    exact absurd (show cdI k = 0 from by
      unfold cdI
      split <;> first | rfl | omega) hk0
  · refine wm_callV C (o := 100) (As := [.int (iZ x1)]) (st := [.int (iZ 0), .ref (kadr G 50)]) (a' := 1) (b' := 6) rfl rfl (k_X11_error G hG x1 I J _ h) 1 gL_error_X11_error rfl (by decide +kernel) (by rw [hX]; exact ⟨Nat.le_of_ble_eq_true rfl, Nat.le_of_ble_eq_true rfl⟩) rfl (Nat.le_of_ble_eq_true rfl) rfl rfl rfl dL_error_4 (kk_sI (fun v I1 J1 h => ?_))
    refine wd_i2l C dL_error_7 ?_
    refine wd_lastore C 0 rfl rfl (by decide) (by decide) dL_error_8 (fun J2 eJ => ?_)
    refine wz_goto C dL_error_9 (tgt := 15) (by decide) ?_
    refine wz_iconst C dL_error_15 ?_
    exact wz_iret C dL_error_16 ⟨_, rfl, Or.inl ⟨rfl, v, J1, h, eJ⟩⟩
set_option maxHeartbeats 4000000 in
set_option maxRecDepth 100000 in
theorem kL_setting (G : KG) (hG : Kok G) (hZ : KZx G) (hC : KCx G) (x1 : Int) (I : Ii) (J : Jj) (E : Nat → Ii → Jj → Prop) (Q : Int → Ii → Jj → Prop) (h : wpx_X11_setting x1 I J E Q) (hE : ∀ k I J, E k I J → cdI k ≠ 0) : Ctr G yL_setting wsL_setting rmL [.ref (kadr G 100), .int (iZ x1), .ref (kadr G 50)] (I, J) (QsI (LQ E Q cdI)) := by
  refine Ctr.ofH (cc := cL_setting) (nL := 4) (ret := (some .int)) [some (.ref (kadr G 100)), some (.int (iZ x1)), some (.ref (kadr G 50)), none] hG (by decide +kernel) rfl (Nat.le_of_ble_eq_true rfl) (Nat.le_of_ble_eq_true rfl) (by simp [lvA, lv_args, Value.category]) ?_
  intro X hX C htab
  refine wz_aload_n C rfl rfl dL_setting_0 ?_
  refine wz_iconst C dL_setting_1 ?_
  refine wz_aload_n C rfl rfl dL_setting_2 ?_
  refine wz_iload_n C rfl rfl dL_setting_3 ?_
  rcases h with h | h
  · refine wl_callX C hC (o := 100) (As := [.int (iZ x1)]) (st := [.int (iZ 0), .ref (kadr G 50)]) (a' := 0) (b' := 0) rfl rfl (kx_X11_setting G hG hZ x1 I J _ h) 1 gL_setting_X11_setting rfl (by decide +kernel) (by rw [hX]; exact ⟨Nat.le_of_ble_eq_true rfl, Nat.le_of_ble_eq_true rfl⟩) rfl (Nat.le_of_ble_eq_true rfl) rfl rfl rfl dL_setting_4 (fun k S' hk => ?_)
    obtain ⟨I1, J1⟩ := S'
    have hk : E k I1 J1 := hk
    have hk0 := hE _ _ _ hk
    by_cases c0 : k = 0
    · subst c0
      refine ⟨[], ⟨0, 9, 12, 19⟩, [], htab.trans rfl, by decide +kernel, by decide, by decide, by decide +kernel, (fun z hz => absurd hz (by simp)), fun q => ?_⟩
      refine wz_astore_3 C rfl dL_setting_12 ?_
      refine wz_iconst C dL_setting_13 ?_
      exact wz_iret C dL_setting_14 ⟨_, rfl, Or.inr ⟨0, by decide, rfl, hk⟩⟩
    exact absurd (show cdI k = 0 from by
      unfold cdI
      split <;> first | rfl | omega) hk0
  · refine wm_callV C (o := 100) (As := [.int (iZ x1)]) (st := [.int (iZ 0), .ref (kadr G 50)]) (a' := 1) (b' := 6) rfl rfl (k_X11_setting G hG x1 I J _ h) 1 gL_setting_X11_setting rfl (by decide +kernel) (by rw [hX]; exact ⟨Nat.le_of_ble_eq_true rfl, Nat.le_of_ble_eq_true rfl⟩) rfl (Nat.le_of_ble_eq_true rfl) rfl rfl rfl dL_setting_4 (kk_sI (fun v I1 J1 h => ?_))
    refine wd_i2l C dL_setting_7 ?_
    refine wd_lastore C 0 rfl rfl (by decide) (by decide) dL_setting_8 (fun J2 eJ => ?_)
    refine wz_goto C dL_setting_9 (tgt := 15) (by decide) ?_
    refine wz_iconst C dL_setting_15 ?_
    exact wz_iret C dL_setting_16 ⟨_, rfl, Or.inl ⟨rfl, v, J1, h, eJ⟩⟩
set_option maxHeartbeats 4000000 in
set_option maxRecDepth 100000 in
theorem kL_weight (G : KG) (hG : Kok G) (hZ : KZx G) (hC : KCx G) (x1 : Int) (I : Ii) (J : Jj) (E : Nat → Ii → Jj → Prop) (Q : Int → Ii → Jj → Prop) (h : wpx_X11_weight x1 I J E Q) (hE : ∀ k I J, E k I J → cdV k ≠ 0) : Ctr G yL_weight wsL_weight rmL [.ref (kadr G 100), .int (iZ x1), .ref (kadr G 50)] (I, J) (QsI (LQ E Q cdV)) := by
  refine Ctr.ofH (cc := cL_weight) (nL := 4) (ret := (some .int)) [some (.ref (kadr G 100)), some (.int (iZ x1)), some (.ref (kadr G 50)), none] hG (by decide +kernel) rfl (Nat.le_of_ble_eq_true rfl) (Nat.le_of_ble_eq_true rfl) (by simp [lvA, lv_args, Value.category]) ?_
  intro X hX C htab
  refine wz_aload_n C rfl rfl dL_weight_0 ?_
  refine wz_iconst C dL_weight_1 ?_
  refine wz_aload_n C rfl rfl dL_weight_2 ?_
  refine wz_iload_n C rfl rfl dL_weight_3 ?_
  rcases h with h | h
  · refine wl_callX C hC (o := 100) (As := [.int (iZ x1)]) (st := [.int (iZ 0), .ref (kadr G 50)]) (a' := 0) (b' := 0) rfl rfl (kx_X11_weight G hG hZ x1 I J _ h) 1 gL_weight_X11_weight rfl (by decide +kernel) (by rw [hX]; exact ⟨Nat.le_of_ble_eq_true rfl, Nat.le_of_ble_eq_true rfl⟩) rfl (Nat.le_of_ble_eq_true rfl) rfl rfl rfl dL_weight_4 (fun k S' hk => ?_)
    obtain ⟨I1, J1⟩ := S'
    have hk : E k I1 J1 := hk
    have hk0 := hE _ _ _ hk
    by_cases c0 : k = 1
    · subst c0
      refine ⟨[], ⟨0, 9, 12, 37⟩, [], htab.trans rfl, by decide +kernel, by decide, by decide, by decide +kernel, (fun z hz => absurd hz (by simp)), fun q => ?_⟩
      refine wz_astore_3 C rfl dL_weight_12 ?_
      refine wz_iconst C dL_weight_13 ?_
      exact wz_iret C dL_weight_14 ⟨_, rfl, Or.inr ⟨1, by decide, rfl, hk⟩⟩
    exact absurd (show cdV k = 0 from by
      unfold cdV
      split <;> first | rfl | omega) hk0
  · refine wm_callV C (o := 100) (As := [.int (iZ x1)]) (st := [.int (iZ 0), .ref (kadr G 50)]) (a' := 1) (b' := 6) rfl rfl (k_X11_weight G hG x1 I J _ h) 1 gL_weight_X11_weight rfl (by decide +kernel) (by rw [hX]; exact ⟨Nat.le_of_ble_eq_true rfl, Nat.le_of_ble_eq_true rfl⟩) rfl (Nat.le_of_ble_eq_true rfl) rfl rfl rfl dL_weight_4 (kk_sI (fun v I1 J1 h => ?_))
    refine wd_i2l C dL_weight_7 ?_
    refine wd_lastore C 0 rfl rfl (by decide) (by decide) dL_weight_8 (fun J2 eJ => ?_)
    refine wz_goto C dL_weight_9 (tgt := 15) (by decide) ?_
    refine wz_iconst C dL_weight_15 ?_
    exact wz_iret C dL_weight_16 ⟨_, rfl, Or.inl ⟨rfl, v, J1, h, eJ⟩⟩
set_option maxHeartbeats 4000000 in
set_option maxRecDepth 100000 in
theorem kL_edge (G : KG) (hG : Kok G) (hZ : KZx G) (hC : KCx G) (x1 : Int) (x2 : Int) (I : Ii) (J : Jj) (E : Nat → Ii → Jj → Prop) (Q : Int → Ii → Jj → Prop) (h : wpx_X11_edge x1 x2 I J E Q) (hE : ∀ k I J, E k I J → cdB k ≠ 0) : Ctr G yL_edge wsL_edge rmL [.ref (kadr G 100), .int (iZ x1), .int (iZ x2), .ref (kadr G 50)] (I, J) (QsI (LQ E Q cdB)) := by
  refine Ctr.ofH (cc := cL_edge) (nL := 5) (ret := (some .int)) [some (.ref (kadr G 100)), some (.int (iZ x1)), some (.int (iZ x2)), some (.ref (kadr G 50)), none] hG (by decide +kernel) rfl (Nat.le_of_ble_eq_true rfl) (Nat.le_of_ble_eq_true rfl) (by simp [lvA, lv_args, Value.category]) ?_
  intro X hX C htab
  refine wz_aload_n C rfl rfl dL_edge_0 ?_
  refine wz_iconst C dL_edge_1 ?_
  refine wz_aload_n C rfl rfl dL_edge_2 ?_
  refine wz_iload_n C rfl rfl dL_edge_3 ?_
  refine wz_iload_n C rfl rfl dL_edge_4 ?_
  rcases h with h | h
  · refine wl_callX C hC (o := 100) (As := [.int (iZ x1), .int (iZ x2)]) (st := [.int (iZ 0), .ref (kadr G 50)]) (a' := 0) (b' := 0) rfl rfl (kx_X11_edge G hG hZ x1 x2 I J _ h) 2 gL_edge_X11_edge rfl (by decide +kernel) (by rw [hX]; exact ⟨Nat.le_of_ble_eq_true rfl, Nat.le_of_ble_eq_true rfl⟩) rfl (Nat.le_of_ble_eq_true rfl) rfl rfl rfl dL_edge_5 (fun k S' hk => ?_)
    obtain ⟨I1, J1⟩ := S'
    have hk : E k I1 J1 := hk
    have hk0 := hE _ _ _ hk
    by_cases c0 : k = 1
    · subst c0
      refine ⟨[], ⟨0, 10, 13, 37⟩, [⟨0, 10, 17, 19⟩], htab.trans rfl, by decide +kernel, by decide, by decide, by decide +kernel, (fun z hz => absurd hz (by simp)), fun q => ?_⟩
      refine wz_astore_4 C rfl dL_edge_13 ?_
      refine wz_iconst C dL_edge_15 ?_
      exact wz_iret C dL_edge_16 ⟨_, rfl, Or.inr ⟨1, by decide, rfl, hk⟩⟩
    by_cases c1 : k = 0
    · subst c1
      refine ⟨[⟨0, 10, 13, 37⟩], ⟨0, 10, 17, 19⟩, [], htab.trans rfl, by decide +kernel, by decide, by decide, by decide +kernel, (fun z hz => by
          simp only [List.mem_cons, List.not_mem_nil, or_false] at hz
          subst hz
          exact ⟨by decide, 1, by decide, by decide, by decide +kernel⟩), fun q => ?_⟩
      refine wz_astore_4 C rfl dL_edge_17 ?_
      refine wz_iconst C dL_edge_19 ?_
      exact wz_iret C dL_edge_20 ⟨_, rfl, Or.inr ⟨0, by decide, rfl, hk⟩⟩
    exact absurd (show cdB k = 0 from by
      unfold cdB
      split <;> first | rfl | omega) hk0
  · refine wm_callV C (o := 100) (As := [.int (iZ x1), .int (iZ x2)]) (st := [.int (iZ 0), .ref (kadr G 50)]) (a' := 1) (b' := 6) rfl rfl (k_X11_edge G hG x1 x2 I J _ h) 2 gL_edge_X11_edge rfl (by decide +kernel) (by rw [hX]; exact ⟨Nat.le_of_ble_eq_true rfl, Nat.le_of_ble_eq_true rfl⟩) rfl (Nat.le_of_ble_eq_true rfl) rfl rfl rfl dL_edge_5 (kk_sI (fun v I1 J1 h => ?_))
    refine wd_i2l C dL_edge_8 ?_
    refine wd_lastore C 0 rfl rfl (by decide) (by decide) dL_edge_9 (fun J2 eJ => ?_)
    refine wz_goto C dL_edge_10 (tgt := 21) (by decide) ?_
    refine wz_iconst C dL_edge_21 ?_
    exact wz_iret C dL_edge_22 ⟨_, rfl, Or.inl ⟨rfl, v, J1, h, eJ⟩⟩
set_option maxHeartbeats 4000000 in
set_option maxRecDepth 100000 in
theorem kL_between (G : KG) (hG : Kok G) (hZ : KZx G) (hC : KCx G) (x1 : Int) (x2 : Int) (I : Ii) (J : Jj) (E : Nat → Ii → Jj → Prop) (Q : Int → Ii → Jj → Prop) (h : wpx_X11_between x1 x2 I J E Q) (hE : ∀ k I J, E k I J → cdV k ≠ 0) : Ctr G yL_between wsL_between rmL [.ref (kadr G 100), .int (iZ x1), .int (iZ x2), .ref (kadr G 50)] (I, J) (QsI (LQ E Q cdV)) := by
  refine Ctr.ofH (cc := cL_between) (nL := 5) (ret := (some .int)) [some (.ref (kadr G 100)), some (.int (iZ x1)), some (.int (iZ x2)), some (.ref (kadr G 50)), none] hG (by decide +kernel) rfl (Nat.le_of_ble_eq_true rfl) (Nat.le_of_ble_eq_true rfl) (by simp [lvA, lv_args, Value.category]) ?_
  intro X hX C htab
  refine wz_aload_n C rfl rfl dL_between_0 ?_
  refine wz_iconst C dL_between_1 ?_
  refine wz_aload_n C rfl rfl dL_between_2 ?_
  refine wz_iload_n C rfl rfl dL_between_3 ?_
  refine wz_iload_n C rfl rfl dL_between_4 ?_
  rcases h with h | h
  · refine wl_callX C hC (o := 100) (As := [.int (iZ x1), .int (iZ x2)]) (st := [.int (iZ 0), .ref (kadr G 50)]) (a' := 0) (b' := 0) rfl rfl (kx_X11_between G hG hZ x1 x2 I J _ h) 2 gL_between_X11_between rfl (by decide +kernel) (by rw [hX]; exact ⟨Nat.le_of_ble_eq_true rfl, Nat.le_of_ble_eq_true rfl⟩) rfl (Nat.le_of_ble_eq_true rfl) rfl rfl rfl dL_between_5 (fun k S' hk => ?_)
    obtain ⟨I1, J1⟩ := S'
    have hk : E k I1 J1 := hk
    have hk0 := hE _ _ _ hk
    by_cases c0 : k = 1
    · subst c0
      refine ⟨[], ⟨0, 10, 13, 37⟩, [], htab.trans rfl, by decide +kernel, by decide, by decide, by decide +kernel, (fun z hz => absurd hz (by simp)), fun q => ?_⟩
      refine wz_astore_4 C rfl dL_between_13 ?_
      refine wz_iconst C dL_between_15 ?_
      exact wz_iret C dL_between_16 ⟨_, rfl, Or.inr ⟨1, by decide, rfl, hk⟩⟩
    exact absurd (show cdV k = 0 from by
      unfold cdV
      split <;> first | rfl | omega) hk0
  · refine wm_callV C (o := 100) (As := [.int (iZ x1), .int (iZ x2)]) (st := [.int (iZ 0), .ref (kadr G 50)]) (a' := 1) (b' := 6) rfl rfl (k_X11_between G hG x1 x2 I J _ h) 2 gL_between_X11_between rfl (by decide +kernel) (by rw [hX]; exact ⟨Nat.le_of_ble_eq_true rfl, Nat.le_of_ble_eq_true rfl⟩) rfl (Nat.le_of_ble_eq_true rfl) rfl rfl rfl dL_between_5 (kk_sI (fun v I1 J1 h => ?_))
    refine wd_i2l C dL_between_8 ?_
    refine wd_lastore C 0 rfl rfl (by decide) (by decide) dL_between_9 (fun J2 eJ => ?_)
    refine wz_goto C dL_between_10 (tgt := 17) (by decide) ?_
    refine wz_iconst C dL_between_17 ?_
    exact wz_iret C dL_between_18 ⟨_, rfl, Or.inl ⟨rfl, v, J1, h, eJ⟩⟩
set_option maxHeartbeats 4000000 in
set_option maxRecDepth 100000 in
theorem kL_flow (G : KG) (hG : Kok G) (hZ : KZx G) (hC : KCx G) (x1 : Int) (x2 : Int) (I : Ii) (J : Jj) (E : Nat → Ii → Jj → Prop) (Q : Int → Ii → Jj → Prop) (h : wpx_X11_flow x1 x2 I J E Q) (hE : ∀ k I J, E k I J → cdV k ≠ 0) : Ctr G yL_flow wsL_flow rmL [.ref (kadr G 100), .int (iZ x1), .int (iZ x2), .ref (kadr G 50)] (I, J) (QsI (LQ E Q cdV)) := by
  refine Ctr.ofH (cc := cL_flow) (nL := 5) (ret := (some .int)) [some (.ref (kadr G 100)), some (.int (iZ x1)), some (.int (iZ x2)), some (.ref (kadr G 50)), none] hG (by decide +kernel) rfl (Nat.le_of_ble_eq_true rfl) (Nat.le_of_ble_eq_true rfl) (by simp [lvA, lv_args, Value.category]) ?_
  intro X hX C htab
  refine wz_aload_n C rfl rfl dL_flow_0 ?_
  refine wz_iconst C dL_flow_1 ?_
  refine wz_aload_n C rfl rfl dL_flow_2 ?_
  refine wz_iload_n C rfl rfl dL_flow_3 ?_
  refine wz_iload_n C rfl rfl dL_flow_4 ?_
  rcases h with h | h
  · refine wl_callX C hC (o := 100) (As := [.int (iZ x1), .int (iZ x2)]) (st := [.int (iZ 0), .ref (kadr G 50)]) (a' := 0) (b' := 0) rfl rfl (kx_X11_flow G hG hZ x1 x2 I J _ h) 2 gL_flow_X11_flow rfl (by decide +kernel) (by rw [hX]; exact ⟨Nat.le_of_ble_eq_true rfl, Nat.le_of_ble_eq_true rfl⟩) rfl (Nat.le_of_ble_eq_true rfl) rfl rfl rfl dL_flow_5 (fun k S' hk => ?_)
    obtain ⟨I1, J1⟩ := S'
    have hk : E k I1 J1 := hk
    have hk0 := hE _ _ _ hk
    by_cases c0 : k = 1
    · subst c0
      refine ⟨[], ⟨0, 10, 13, 37⟩, [], htab.trans rfl, by decide +kernel, by decide, by decide, by decide +kernel, (fun z hz => absurd hz (by simp)), fun q => ?_⟩
      refine wz_astore_4 C rfl dL_flow_13 ?_
      refine wz_iconst C dL_flow_15 ?_
      exact wz_iret C dL_flow_16 ⟨_, rfl, Or.inr ⟨1, by decide, rfl, hk⟩⟩
    exact absurd (show cdV k = 0 from by
      unfold cdV
      split <;> first | rfl | omega) hk0
  · refine wm_callV C (o := 100) (As := [.int (iZ x1), .int (iZ x2)]) (st := [.int (iZ 0), .ref (kadr G 50)]) (a' := 1) (b' := 6) rfl rfl (k_X11_flow G hG x1 x2 I J _ h) 2 gL_flow_X11_flow rfl (by decide +kernel) (by rw [hX]; exact ⟨Nat.le_of_ble_eq_true rfl, Nat.le_of_ble_eq_true rfl⟩) rfl (Nat.le_of_ble_eq_true rfl) rfl rfl rfl dL_flow_5 (kk_sI (fun v I1 J1 h => ?_))
    refine wd_i2l C dL_flow_8 ?_
    refine wd_lastore C 0 rfl rfl (by decide) (by decide) dL_flow_9 (fun J2 eJ => ?_)
    refine wz_goto C dL_flow_10 (tgt := 17) (by decide) ?_
    refine wz_iconst C dL_flow_17 ?_
    exact wz_iret C dL_flow_18 ⟨_, rfl, Or.inl ⟨rfl, v, J1, h, eJ⟩⟩
set_option maxHeartbeats 4000000 in
set_option maxRecDepth 100000 in
theorem kL_side (G : KG) (hG : Kok G) (hZ : KZx G) (hC : KCx G) (x1 : Int) (x2 : Int) (I : Ii) (J : Jj) (E : Nat → Ii → Jj → Prop) (Q : Int → Ii → Jj → Prop) (h : wpx_X11_side x1 x2 I J E Q) (hE : ∀ k I J, E k I J → cdV k ≠ 0) : Ctr G yL_side wsL_side rmL [.ref (kadr G 100), .int (iZ x1), .int (iZ x2), .ref (kadr G 50)] (I, J) (QsI (LQ E Q cdV)) := by
  refine Ctr.ofH (cc := cL_side) (nL := 5) (ret := (some .int)) [some (.ref (kadr G 100)), some (.int (iZ x1)), some (.int (iZ x2)), some (.ref (kadr G 50)), none] hG (by decide +kernel) rfl (Nat.le_of_ble_eq_true rfl) (Nat.le_of_ble_eq_true rfl) (by simp [lvA, lv_args, Value.category]) ?_
  intro X hX C htab
  refine wz_aload_n C rfl rfl dL_side_0 ?_
  refine wz_iconst C dL_side_1 ?_
  refine wz_aload_n C rfl rfl dL_side_2 ?_
  refine wz_iload_n C rfl rfl dL_side_3 ?_
  refine wz_iload_n C rfl rfl dL_side_4 ?_
  rcases h with h | h
  · refine wl_callX C hC (o := 100) (As := [.int (iZ x1), .int (iZ x2)]) (st := [.int (iZ 0), .ref (kadr G 50)]) (a' := 0) (b' := 0) rfl rfl (kx_X11_side G hG hZ x1 x2 I J _ h) 2 gL_side_X11_side rfl (by decide +kernel) (by rw [hX]; exact ⟨Nat.le_of_ble_eq_true rfl, Nat.le_of_ble_eq_true rfl⟩) rfl (Nat.le_of_ble_eq_true rfl) rfl rfl rfl dL_side_5 (fun k S' hk => ?_)
    obtain ⟨I1, J1⟩ := S'
    have hk : E k I1 J1 := hk
    have hk0 := hE _ _ _ hk
    by_cases c0 : k = 1
    · subst c0
      refine ⟨[], ⟨0, 10, 13, 37⟩, [], htab.trans rfl, by decide +kernel, by decide, by decide, by decide +kernel, (fun z hz => absurd hz (by simp)), fun q => ?_⟩
      refine wz_astore_4 C rfl dL_side_13 ?_
      refine wz_iconst C dL_side_15 ?_
      exact wz_iret C dL_side_16 ⟨_, rfl, Or.inr ⟨1, by decide, rfl, hk⟩⟩
    exact absurd (show cdV k = 0 from by
      unfold cdV
      split <;> first | rfl | omega) hk0
  · refine wm_callV C (o := 100) (As := [.int (iZ x1), .int (iZ x2)]) (st := [.int (iZ 0), .ref (kadr G 50)]) (a' := 1) (b' := 6) rfl rfl (k_X11_side G hG x1 x2 I J _ h) 2 gL_side_X11_side rfl (by decide +kernel) (by rw [hX]; exact ⟨Nat.le_of_ble_eq_true rfl, Nat.le_of_ble_eq_true rfl⟩) rfl (Nat.le_of_ble_eq_true rfl) rfl rfl rfl dL_side_5 (kk_sI (fun v I1 J1 h => ?_))
    refine wd_i2l C dL_side_8 ?_
    refine wd_lastore C 0 rfl rfl (by decide) (by decide) dL_side_9 (fun J2 eJ => ?_)
    refine wz_goto C dL_side_10 (tgt := 17) (by decide) ?_
    refine wz_iconst C dL_side_17 ?_
    exact wz_iret C dL_side_18 ⟨_, rfl, Or.inl ⟨rfl, v, J1, h, eJ⟩⟩
set_option maxHeartbeats 4000000 in
set_option maxRecDepth 100000 in
theorem kL_partOf (G : KG) (hG : Kok G) (hZ : KZx G) (hC : KCx G) (x1 : Int) (I : Ii) (J : Jj) (E : Nat → Ii → Jj → Prop) (Q : Int → Ii → Jj → Prop) (h : wpx_X11_partOf x1 I J E Q) (hE : ∀ k I J, E k I J → cdV k ≠ 0) : Ctr G yL_partOf wsL_partOf rmL [.ref (kadr G 100), .int (iZ x1), .ref (kadr G 50)] (I, J) (QsI (LQ E Q cdV)) := by
  refine Ctr.ofH (cc := cL_partOf) (nL := 4) (ret := (some .int)) [some (.ref (kadr G 100)), some (.int (iZ x1)), some (.ref (kadr G 50)), none] hG (by decide +kernel) rfl (Nat.le_of_ble_eq_true rfl) (Nat.le_of_ble_eq_true rfl) (by simp [lvA, lv_args, Value.category]) ?_
  intro X hX C htab
  refine wz_aload_n C rfl rfl dL_partOf_0 ?_
  refine wz_iconst C dL_partOf_1 ?_
  refine wz_aload_n C rfl rfl dL_partOf_2 ?_
  refine wz_iload_n C rfl rfl dL_partOf_3 ?_
  rcases h with h | h
  · refine wl_callX C hC (o := 100) (As := [.int (iZ x1)]) (st := [.int (iZ 0), .ref (kadr G 50)]) (a' := 0) (b' := 0) rfl rfl (kx_X11_partOf G hG hZ x1 I J _ h) 1 gL_partOf_X11_partOf rfl (by decide +kernel) (by rw [hX]; exact ⟨Nat.le_of_ble_eq_true rfl, Nat.le_of_ble_eq_true rfl⟩) rfl (Nat.le_of_ble_eq_true rfl) rfl rfl rfl dL_partOf_4 (fun k S' hk => ?_)
    obtain ⟨I1, J1⟩ := S'
    have hk : E k I1 J1 := hk
    have hk0 := hE _ _ _ hk
    by_cases c0 : k = 1
    · subst c0
      refine ⟨[], ⟨0, 9, 12, 37⟩, [], htab.trans rfl, by decide +kernel, by decide, by decide, by decide +kernel, (fun z hz => absurd hz (by simp)), fun q => ?_⟩
      refine wz_astore_3 C rfl dL_partOf_12 ?_
      refine wz_iconst C dL_partOf_13 ?_
      exact wz_iret C dL_partOf_14 ⟨_, rfl, Or.inr ⟨1, by decide, rfl, hk⟩⟩
    exact absurd (show cdV k = 0 from by
      unfold cdV
      split <;> first | rfl | omega) hk0
  · refine wm_callV C (o := 100) (As := [.int (iZ x1)]) (st := [.int (iZ 0), .ref (kadr G 50)]) (a' := 1) (b' := 6) rfl rfl (k_X11_partOf G hG x1 I J _ h) 1 gL_partOf_X11_partOf rfl (by decide +kernel) (by rw [hX]; exact ⟨Nat.le_of_ble_eq_true rfl, Nat.le_of_ble_eq_true rfl⟩) rfl (Nat.le_of_ble_eq_true rfl) rfl rfl rfl dL_partOf_4 (kk_sI (fun v I1 J1 h => ?_))
    refine wd_i2l C dL_partOf_7 ?_
    refine wd_lastore C 0 rfl rfl (by decide) (by decide) dL_partOf_8 (fun J2 eJ => ?_)
    refine wz_goto C dL_partOf_9 (tgt := 15) (by decide) ?_
    refine wz_iconst C dL_partOf_15 ?_
    exact wz_iret C dL_partOf_16 ⟨_, rfl, Or.inl ⟨rfl, v, J1, h, eJ⟩⟩
set_option maxHeartbeats 4000000 in
set_option maxRecDepth 100000 in
theorem kL_part (G : KG) (hG : Kok G) (hZ : KZx G) (hC : KCx G) (x1 : Int) (x2 : Int) (I : Ii) (J : Jj) (E : Nat → Ii → Jj → Prop) (Q : Int → Ii → Jj → Prop) (h : wpx_X11_part x1 x2 I J E Q) (hE : ∀ k I J, E k I J → cdB k ≠ 0) : Ctr G yL_part wsL_part rmL [.ref (kadr G 100), .int (iZ x1), .int (iZ x2), .ref (kadr G 50)] (I, J) (QsI (LQ E Q cdB)) := by
  refine Ctr.ofH (cc := cL_part) (nL := 5) (ret := (some .int)) [some (.ref (kadr G 100)), some (.int (iZ x1)), some (.int (iZ x2)), some (.ref (kadr G 50)), none] hG (by decide +kernel) rfl (Nat.le_of_ble_eq_true rfl) (Nat.le_of_ble_eq_true rfl) (by simp [lvA, lv_args, Value.category]) ?_
  intro X hX C htab
  refine wz_aload_n C rfl rfl dL_part_0 ?_
  refine wz_iconst C dL_part_1 ?_
  refine wz_aload_n C rfl rfl dL_part_2 ?_
  refine wz_iload_n C rfl rfl dL_part_3 ?_
  refine wz_iload_n C rfl rfl dL_part_4 ?_
  rcases h with h | h
  · refine wl_callX C hC (o := 100) (As := [.int (iZ x1), .int (iZ x2)]) (st := [.int (iZ 0), .ref (kadr G 50)]) (a' := 0) (b' := 0) rfl rfl (kx_X11_part G hG hZ x1 x2 I J _ h) 2 gL_part_X11_part rfl (by decide +kernel) (by rw [hX]; exact ⟨Nat.le_of_ble_eq_true rfl, Nat.le_of_ble_eq_true rfl⟩) rfl (Nat.le_of_ble_eq_true rfl) rfl rfl rfl dL_part_5 (fun k S' hk => ?_)
    obtain ⟨I1, J1⟩ := S'
    have hk : E k I1 J1 := hk
    have hk0 := hE _ _ _ hk
    by_cases c0 : k = 1
    · subst c0
      refine ⟨[], ⟨0, 10, 13, 37⟩, [⟨0, 10, 17, 19⟩], htab.trans rfl, by decide +kernel, by decide, by decide, by decide +kernel, (fun z hz => absurd hz (by simp)), fun q => ?_⟩
      refine wz_astore_4 C rfl dL_part_13 ?_
      refine wz_iconst C dL_part_15 ?_
      exact wz_iret C dL_part_16 ⟨_, rfl, Or.inr ⟨1, by decide, rfl, hk⟩⟩
    by_cases c1 : k = 0
    · subst c1
      refine ⟨[⟨0, 10, 13, 37⟩], ⟨0, 10, 17, 19⟩, [], htab.trans rfl, by decide +kernel, by decide, by decide, by decide +kernel, (fun z hz => by
          simp only [List.mem_cons, List.not_mem_nil, or_false] at hz
          subst hz
          exact ⟨by decide, 1, by decide, by decide, by decide +kernel⟩), fun q => ?_⟩
      refine wz_astore_4 C rfl dL_part_17 ?_
      refine wz_iconst C dL_part_19 ?_
      exact wz_iret C dL_part_20 ⟨_, rfl, Or.inr ⟨0, by decide, rfl, hk⟩⟩
    exact absurd (show cdB k = 0 from by
      unfold cdB
      split <;> first | rfl | omega) hk0
  · refine wm_callV C (o := 100) (As := [.int (iZ x1), .int (iZ x2)]) (st := [.int (iZ 0), .ref (kadr G 50)]) (a' := 1) (b' := 6) rfl rfl (k_X11_part G hG x1 x2 I J _ h) 2 gL_part_X11_part rfl (by decide +kernel) (by rw [hX]; exact ⟨Nat.le_of_ble_eq_true rfl, Nat.le_of_ble_eq_true rfl⟩) rfl (Nat.le_of_ble_eq_true rfl) rfl rfl rfl dL_part_5 (kk_sI (fun v I1 J1 h => ?_))
    refine wd_i2l C dL_part_8 ?_
    refine wd_lastore C 0 rfl rfl (by decide) (by decide) dL_part_9 (fun J2 eJ => ?_)
    refine wz_goto C dL_part_10 (tgt := 21) (by decide) ?_
    refine wz_iconst C dL_part_21 ?_
    exact wz_iret C dL_part_22 ⟨_, rfl, Or.inl ⟨rfl, v, J1, h, eJ⟩⟩
set_option maxHeartbeats 4000000 in
set_option maxRecDepth 100000 in
theorem kL_group (G : KG) (hG : Kok G) (hZ : KZx G) (hC : KCx G) (x1 : Int) (x2 : Int) (I : Ii) (J : Jj) (E : Nat → Ii → Jj → Prop) (Q : Int → Ii → Jj → Prop) (h : wpx_X11_group x1 x2 I J E Q) (hE : ∀ k I J, E k I J → cdB k ≠ 0) : Ctr G yL_group wsL_group rmL [.ref (kadr G 100), .int (iZ x1), .int (iZ x2), .ref (kadr G 50)] (I, J) (QsI (LQ E Q cdB)) := by
  refine Ctr.ofH (cc := cL_group) (nL := 5) (ret := (some .int)) [some (.ref (kadr G 100)), some (.int (iZ x1)), some (.int (iZ x2)), some (.ref (kadr G 50)), none] hG (by decide +kernel) rfl (Nat.le_of_ble_eq_true rfl) (Nat.le_of_ble_eq_true rfl) (by simp [lvA, lv_args, Value.category]) ?_
  intro X hX C htab
  refine wz_aload_n C rfl rfl dL_group_0 ?_
  refine wz_iconst C dL_group_1 ?_
  refine wz_aload_n C rfl rfl dL_group_2 ?_
  refine wz_iload_n C rfl rfl dL_group_3 ?_
  refine wz_iload_n C rfl rfl dL_group_4 ?_
  rcases h with h | h
  · refine wl_callX C hC (o := 100) (As := [.int (iZ x1), .int (iZ x2)]) (st := [.int (iZ 0), .ref (kadr G 50)]) (a' := 0) (b' := 0) rfl rfl (kx_X11_group G hG hZ x1 x2 I J _ h) 2 gL_group_X11_group rfl (by decide +kernel) (by rw [hX]; exact ⟨Nat.le_of_ble_eq_true rfl, Nat.le_of_ble_eq_true rfl⟩) rfl (Nat.le_of_ble_eq_true rfl) rfl rfl rfl dL_group_5 (fun k S' hk => ?_)
    obtain ⟨I1, J1⟩ := S'
    have hk : E k I1 J1 := hk
    have hk0 := hE _ _ _ hk
    by_cases c0 : k = 1
    · subst c0
      refine ⟨[], ⟨0, 10, 13, 37⟩, [⟨0, 10, 17, 19⟩], htab.trans rfl, by decide +kernel, by decide, by decide, by decide +kernel, (fun z hz => absurd hz (by simp)), fun q => ?_⟩
      refine wz_astore_4 C rfl dL_group_13 ?_
      refine wz_iconst C dL_group_15 ?_
      exact wz_iret C dL_group_16 ⟨_, rfl, Or.inr ⟨1, by decide, rfl, hk⟩⟩
    by_cases c1 : k = 0
    · subst c1
      refine ⟨[⟨0, 10, 13, 37⟩], ⟨0, 10, 17, 19⟩, [], htab.trans rfl, by decide +kernel, by decide, by decide, by decide +kernel, (fun z hz => by
          simp only [List.mem_cons, List.not_mem_nil, or_false] at hz
          subst hz
          exact ⟨by decide, 1, by decide, by decide, by decide +kernel⟩), fun q => ?_⟩
      refine wz_astore_4 C rfl dL_group_17 ?_
      refine wz_iconst C dL_group_19 ?_
      exact wz_iret C dL_group_20 ⟨_, rfl, Or.inr ⟨0, by decide, rfl, hk⟩⟩
    exact absurd (show cdB k = 0 from by
      unfold cdB
      split <;> first | rfl | omega) hk0
  · refine wm_callV C (o := 100) (As := [.int (iZ x1), .int (iZ x2)]) (st := [.int (iZ 0), .ref (kadr G 50)]) (a' := 1) (b' := 6) rfl rfl (k_X11_group G hG x1 x2 I J _ h) 2 gL_group_X11_group rfl (by decide +kernel) (by rw [hX]; exact ⟨Nat.le_of_ble_eq_true rfl, Nat.le_of_ble_eq_true rfl⟩) rfl (Nat.le_of_ble_eq_true rfl) rfl rfl rfl dL_group_5 (kk_sI (fun v I1 J1 h => ?_))
    refine wd_i2l C dL_group_8 ?_
    refine wd_lastore C 0 rfl rfl (by decide) (by decide) dL_group_9 (fun J2 eJ => ?_)
    refine wz_goto C dL_group_10 (tgt := 21) (by decide) ?_
    refine wz_iconst C dL_group_21 ?_
    exact wz_iret C dL_group_22 ⟨_, rfl, Or.inl ⟨rfl, v, J1, h, eJ⟩⟩
set_option maxHeartbeats 4000000 in
set_option maxRecDepth 100000 in
theorem kL_groupOf (G : KG) (hG : Kok G) (hZ : KZx G) (hC : KCx G) (x1 : Int) (I : Ii) (J : Jj) (E : Nat → Ii → Jj → Prop) (Q : Int → Ii → Jj → Prop) (h : wpx_X11_groupOf x1 I J E Q) (hE : ∀ k I J, E k I J → cdV k ≠ 0) : Ctr G yL_groupOf wsL_groupOf rmL [.ref (kadr G 100), .int (iZ x1), .ref (kadr G 50)] (I, J) (QsI (LQ E Q cdV)) := by
  refine Ctr.ofH (cc := cL_groupOf) (nL := 4) (ret := (some .int)) [some (.ref (kadr G 100)), some (.int (iZ x1)), some (.ref (kadr G 50)), none] hG (by decide +kernel) rfl (Nat.le_of_ble_eq_true rfl) (Nat.le_of_ble_eq_true rfl) (by simp [lvA, lv_args, Value.category]) ?_
  intro X hX C htab
  refine wz_aload_n C rfl rfl dL_groupOf_0 ?_
  refine wz_iconst C dL_groupOf_1 ?_
  refine wz_aload_n C rfl rfl dL_groupOf_2 ?_
  refine wz_iload_n C rfl rfl dL_groupOf_3 ?_
  rcases h with h | h
  · refine wl_callX C hC (o := 100) (As := [.int (iZ x1)]) (st := [.int (iZ 0), .ref (kadr G 50)]) (a' := 0) (b' := 0) rfl rfl (kx_X11_groupOf G hG hZ x1 I J _ h) 1 gL_groupOf_X11_groupOf rfl (by decide +kernel) (by rw [hX]; exact ⟨Nat.le_of_ble_eq_true rfl, Nat.le_of_ble_eq_true rfl⟩) rfl (Nat.le_of_ble_eq_true rfl) rfl rfl rfl dL_groupOf_4 (fun k S' hk => ?_)
    obtain ⟨I1, J1⟩ := S'
    have hk : E k I1 J1 := hk
    have hk0 := hE _ _ _ hk
    by_cases c0 : k = 1
    · subst c0
      refine ⟨[], ⟨0, 9, 12, 37⟩, [], htab.trans rfl, by decide +kernel, by decide, by decide, by decide +kernel, (fun z hz => absurd hz (by simp)), fun q => ?_⟩
      refine wz_astore_3 C rfl dL_groupOf_12 ?_
      refine wz_iconst C dL_groupOf_13 ?_
      exact wz_iret C dL_groupOf_14 ⟨_, rfl, Or.inr ⟨1, by decide, rfl, hk⟩⟩
    exact absurd (show cdV k = 0 from by
      unfold cdV
      split <;> first | rfl | omega) hk0
  · refine wm_callV C (o := 100) (As := [.int (iZ x1)]) (st := [.int (iZ 0), .ref (kadr G 50)]) (a' := 1) (b' := 6) rfl rfl (k_X11_groupOf G hG x1 I J _ h) 1 gL_groupOf_X11_groupOf rfl (by decide +kernel) (by rw [hX]; exact ⟨Nat.le_of_ble_eq_true rfl, Nat.le_of_ble_eq_true rfl⟩) rfl (Nat.le_of_ble_eq_true rfl) rfl rfl rfl dL_groupOf_4 (kk_sI (fun v I1 J1 h => ?_))
    refine wd_i2l C dL_groupOf_7 ?_
    refine wd_lastore C 0 rfl rfl (by decide) (by decide) dL_groupOf_8 (fun J2 eJ => ?_)
    refine wz_goto C dL_groupOf_9 (tgt := 15) (by decide) ?_
    refine wz_iconst C dL_groupOf_15 ?_
    exact wz_iret C dL_groupOf_16 ⟨_, rfl, Or.inl ⟨rfl, v, J1, h, eJ⟩⟩
set_option maxHeartbeats 4000000 in
set_option maxRecDepth 100000 in
theorem kL_mate (G : KG) (hG : Kok G) (hZ : KZx G) (hC : KCx G) (x1 : Int) (I : Ii) (J : Jj) (E : Nat → Ii → Jj → Prop) (Q : Int → Ii → Jj → Prop) (h : wpx_X11_mate x1 I J E Q) (hE : ∀ k I J, E k I J → cdV k ≠ 0) : Ctr G yL_mate wsL_mate rmL [.ref (kadr G 100), .int (iZ x1), .ref (kadr G 50)] (I, J) (QsI (LQ E Q cdV)) := by
  refine Ctr.ofH (cc := cL_mate) (nL := 4) (ret := (some .int)) [some (.ref (kadr G 100)), some (.int (iZ x1)), some (.ref (kadr G 50)), none] hG (by decide +kernel) rfl (Nat.le_of_ble_eq_true rfl) (Nat.le_of_ble_eq_true rfl) (by simp [lvA, lv_args, Value.category]) ?_
  intro X hX C htab
  refine wz_aload_n C rfl rfl dL_mate_0 ?_
  refine wz_iconst C dL_mate_1 ?_
  refine wz_aload_n C rfl rfl dL_mate_2 ?_
  refine wz_iload_n C rfl rfl dL_mate_3 ?_
  rcases h with h | h
  · refine wl_callX C hC (o := 100) (As := [.int (iZ x1)]) (st := [.int (iZ 0), .ref (kadr G 50)]) (a' := 0) (b' := 0) rfl rfl (kx_X11_mate G hG hZ x1 I J _ h) 1 gL_mate_X11_mate rfl (by decide +kernel) (by rw [hX]; exact ⟨Nat.le_of_ble_eq_true rfl, Nat.le_of_ble_eq_true rfl⟩) rfl (Nat.le_of_ble_eq_true rfl) rfl rfl rfl dL_mate_4 (fun k S' hk => ?_)
    obtain ⟨I1, J1⟩ := S'
    have hk : E k I1 J1 := hk
    have hk0 := hE _ _ _ hk
    by_cases c0 : k = 1
    · subst c0
      refine ⟨[], ⟨0, 9, 12, 37⟩, [], htab.trans rfl, by decide +kernel, by decide, by decide, by decide +kernel, (fun z hz => absurd hz (by simp)), fun q => ?_⟩
      refine wz_astore_3 C rfl dL_mate_12 ?_
      refine wz_iconst C dL_mate_13 ?_
      exact wz_iret C dL_mate_14 ⟨_, rfl, Or.inr ⟨1, by decide, rfl, hk⟩⟩
    exact absurd (show cdV k = 0 from by
      unfold cdV
      split <;> first | rfl | omega) hk0
  · refine wm_callV C (o := 100) (As := [.int (iZ x1)]) (st := [.int (iZ 0), .ref (kadr G 50)]) (a' := 1) (b' := 6) rfl rfl (k_X11_mate G hG x1 I J _ h) 1 gL_mate_X11_mate rfl (by decide +kernel) (by rw [hX]; exact ⟨Nat.le_of_ble_eq_true rfl, Nat.le_of_ble_eq_true rfl⟩) rfl (Nat.le_of_ble_eq_true rfl) rfl rfl rfl dL_mate_4 (kk_sI (fun v I1 J1 h => ?_))
    refine wd_i2l C dL_mate_7 ?_
    refine wd_lastore C 0 rfl rfl (by decide) (by decide) dL_mate_8 (fun J2 eJ => ?_)
    refine wz_goto C dL_mate_9 (tgt := 15) (by decide) ?_
    refine wz_iconst C dL_mate_15 ?_
    exact wz_iret C dL_mate_16 ⟨_, rfl, Or.inl ⟨rfl, v, J1, h, eJ⟩⟩
set_option maxHeartbeats 4000000 in
set_option maxRecDepth 100000 in
theorem kL_gain (G : KG) (hG : Kok G) (hZ : KZx G) (hC : KCx G) (x1 : Int) (x2 : Int) (I : Ii) (J : Jj) (E : Nat → Ii → Jj → Prop) (Q : Int → Ii → Jj → Prop) (h : wpx_X11_gain x1 x2 I J E Q) (hE : ∀ k I J, E k I J → cdV k ≠ 0) : Ctr G yL_gain wsL_gain rmL [.ref (kadr G 100), .int (iZ x1), .int (iZ x2), .ref (kadr G 50)] (I, J) (QsI (LQ E Q cdV)) := by
  refine Ctr.ofH (cc := cL_gain) (nL := 5) (ret := (some .int)) [some (.ref (kadr G 100)), some (.int (iZ x1)), some (.int (iZ x2)), some (.ref (kadr G 50)), none] hG (by decide +kernel) rfl (Nat.le_of_ble_eq_true rfl) (Nat.le_of_ble_eq_true rfl) (by simp [lvA, lv_args, Value.category]) ?_
  intro X hX C htab
  refine wz_aload_n C rfl rfl dL_gain_0 ?_
  refine wz_iconst C dL_gain_1 ?_
  refine wz_aload_n C rfl rfl dL_gain_2 ?_
  refine wz_iload_n C rfl rfl dL_gain_3 ?_
  refine wz_iload_n C rfl rfl dL_gain_4 ?_
  rcases h with h | h
  · refine wl_callX C hC (o := 100) (As := [.int (iZ x1), .int (iZ x2)]) (st := [.int (iZ 0), .ref (kadr G 50)]) (a' := 0) (b' := 0) rfl rfl (kx_X11_gain G hG hZ x1 x2 I J _ h) 2 gL_gain_X11_gain rfl (by decide +kernel) (by rw [hX]; exact ⟨Nat.le_of_ble_eq_true rfl, Nat.le_of_ble_eq_true rfl⟩) rfl (Nat.le_of_ble_eq_true rfl) rfl rfl rfl dL_gain_5 (fun k S' hk => ?_)
    obtain ⟨I1, J1⟩ := S'
    have hk : E k I1 J1 := hk
    have hk0 := hE _ _ _ hk
    by_cases c0 : k = 1
    · subst c0
      refine ⟨[], ⟨0, 10, 13, 37⟩, [], htab.trans rfl, by decide +kernel, by decide, by decide, by decide +kernel, (fun z hz => absurd hz (by simp)), fun q => ?_⟩
      refine wz_astore_4 C rfl dL_gain_13 ?_
      refine wz_iconst C dL_gain_15 ?_
      exact wz_iret C dL_gain_16 ⟨_, rfl, Or.inr ⟨1, by decide, rfl, hk⟩⟩
    exact absurd (show cdV k = 0 from by
      unfold cdV
      split <;> first | rfl | omega) hk0
  · refine wm_callV C (o := 100) (As := [.int (iZ x1), .int (iZ x2)]) (st := [.int (iZ 0), .ref (kadr G 50)]) (a' := 1) (b' := 6) rfl rfl (k_X11_gain G hG x1 x2 I J _ h) 2 gL_gain_X11_gain rfl (by decide +kernel) (by rw [hX]; exact ⟨Nat.le_of_ble_eq_true rfl, Nat.le_of_ble_eq_true rfl⟩) rfl (Nat.le_of_ble_eq_true rfl) rfl rfl rfl dL_gain_5 (kk_sI (fun v I1 J1 h => ?_))
    refine wd_i2l C dL_gain_8 ?_
    refine wd_lastore C 0 rfl rfl (by decide) (by decide) dL_gain_9 (fun J2 eJ => ?_)
    refine wz_goto C dL_gain_10 (tgt := 17) (by decide) ?_
    refine wz_iconst C dL_gain_17 ?_
    exact wz_iret C dL_gain_18 ⟨_, rfl, Or.inl ⟨rfl, v, J1, h, eJ⟩⟩
set_option maxHeartbeats 4000000 in
set_option maxRecDepth 100000 in
theorem kL_whyNotMove (G : KG) (hG : Kok G) (hZ : KZx G) (hC : KCx G) (x1 : Int) (x2 : Int) (I : Ii) (J : Jj) (E : Nat → Ii → Jj → Prop) (Q : Int → Ii → Jj → Prop) (h : wpx_X11_whyNotMove x1 x2 I J E Q) (hE : ∀ k I J, E k I J → cdV k ≠ 0) : Ctr G yL_whyNotMove wsL_whyNotMove rmL [.ref (kadr G 100), .int (iZ x1), .int (iZ x2), .ref (kadr G 50)] (I, J) (QsI (LQ E Q cdV)) := by
  refine Ctr.ofH (cc := cL_whyNotMove) (nL := 5) (ret := (some .int)) [some (.ref (kadr G 100)), some (.int (iZ x1)), some (.int (iZ x2)), some (.ref (kadr G 50)), none] hG (by decide +kernel) rfl (Nat.le_of_ble_eq_true rfl) (Nat.le_of_ble_eq_true rfl) (by simp [lvA, lv_args, Value.category]) ?_
  intro X hX C htab
  refine wz_aload_n C rfl rfl dL_whyNotMove_0 ?_
  refine wz_iconst C dL_whyNotMove_1 ?_
  refine wz_aload_n C rfl rfl dL_whyNotMove_2 ?_
  refine wz_iload_n C rfl rfl dL_whyNotMove_3 ?_
  refine wz_iload_n C rfl rfl dL_whyNotMove_4 ?_
  rcases h with h | h
  · refine wl_callX C hC (o := 100) (As := [.int (iZ x1), .int (iZ x2)]) (st := [.int (iZ 0), .ref (kadr G 50)]) (a' := 0) (b' := 0) rfl rfl (kx_X11_whyNotMove G hG hZ x1 x2 I J _ h) 2 gL_whyNotMove_X11_whyNotMove rfl (by decide +kernel) (by rw [hX]; exact ⟨Nat.le_of_ble_eq_true rfl, Nat.le_of_ble_eq_true rfl⟩) rfl (Nat.le_of_ble_eq_true rfl) rfl rfl rfl dL_whyNotMove_5 (fun k S' hk => ?_)
    obtain ⟨I1, J1⟩ := S'
    have hk : E k I1 J1 := hk
    have hk0 := hE _ _ _ hk
    by_cases c0 : k = 1
    · subst c0
      refine ⟨[], ⟨0, 10, 13, 37⟩, [], htab.trans rfl, by decide +kernel, by decide, by decide, by decide +kernel, (fun z hz => absurd hz (by simp)), fun q => ?_⟩
      refine wz_astore_4 C rfl dL_whyNotMove_13 ?_
      refine wz_iconst C dL_whyNotMove_15 ?_
      exact wz_iret C dL_whyNotMove_16 ⟨_, rfl, Or.inr ⟨1, by decide, rfl, hk⟩⟩
    exact absurd (show cdV k = 0 from by
      unfold cdV
      split <;> first | rfl | omega) hk0
  · refine wm_callV C (o := 100) (As := [.int (iZ x1), .int (iZ x2)]) (st := [.int (iZ 0), .ref (kadr G 50)]) (a' := 1) (b' := 6) rfl rfl (k_X11_whyNotMove G hG x1 x2 I J _ h) 2 gL_whyNotMove_X11_whyNotMove rfl (by decide +kernel) (by rw [hX]; exact ⟨Nat.le_of_ble_eq_true rfl, Nat.le_of_ble_eq_true rfl⟩) rfl (Nat.le_of_ble_eq_true rfl) rfl rfl rfl dL_whyNotMove_5 (kk_sI (fun v I1 J1 h => ?_))
    refine wd_i2l C dL_whyNotMove_8 ?_
    refine wd_lastore C 0 rfl rfl (by decide) (by decide) dL_whyNotMove_9 (fun J2 eJ => ?_)
    refine wz_goto C dL_whyNotMove_10 (tgt := 17) (by decide) ?_
    refine wz_iconst C dL_whyNotMove_17 ?_
    exact wz_iret C dL_whyNotMove_18 ⟨_, rfl, Or.inl ⟨rfl, v, J1, h, eJ⟩⟩
set_option maxHeartbeats 4000000 in
set_option maxRecDepth 100000 in
theorem kL_debtsIf (G : KG) (hG : Kok G) (hZ : KZx G) (hC : KCx G) (x1 : Int) (x2 : Int) (I : Ii) (J : Jj) (E : Nat → Ii → Jj → Prop) (Q : Int → Ii → Jj → Prop) (h : wpx_X11_debtsIf x1 x2 I J E Q) (hE : ∀ k I J, E k I J → cdV k ≠ 0) : Ctr G yL_debtsIf wsL_debtsIf rmL [.ref (kadr G 100), .int (iZ x1), .int (iZ x2), .ref (kadr G 50)] (I, J) (QsI (LQ E Q cdV)) := by
  refine Ctr.ofH (cc := cL_debtsIf) (nL := 5) (ret := (some .int)) [some (.ref (kadr G 100)), some (.int (iZ x1)), some (.int (iZ x2)), some (.ref (kadr G 50)), none] hG (by decide +kernel) rfl (Nat.le_of_ble_eq_true rfl) (Nat.le_of_ble_eq_true rfl) (by simp [lvA, lv_args, Value.category]) ?_
  intro X hX C htab
  refine wz_aload_n C rfl rfl dL_debtsIf_0 ?_
  refine wz_iconst C dL_debtsIf_1 ?_
  refine wz_aload_n C rfl rfl dL_debtsIf_2 ?_
  refine wz_iload_n C rfl rfl dL_debtsIf_3 ?_
  refine wz_iload_n C rfl rfl dL_debtsIf_4 ?_
  rcases h with h | h
  · refine wl_callX C hC (o := 100) (As := [.int (iZ x1), .int (iZ x2)]) (st := [.int (iZ 0), .ref (kadr G 50)]) (a' := 0) (b' := 0) rfl rfl (kx_X11_debtsIf G hG hZ x1 x2 I J _ h) 2 gL_debtsIf_X11_debtsIf rfl (by decide +kernel) (by rw [hX]; exact ⟨Nat.le_of_ble_eq_true rfl, Nat.le_of_ble_eq_true rfl⟩) rfl (Nat.le_of_ble_eq_true rfl) rfl rfl rfl dL_debtsIf_5 (fun k S' hk => ?_)
    obtain ⟨I1, J1⟩ := S'
    have hk : E k I1 J1 := hk
    have hk0 := hE _ _ _ hk
    by_cases c0 : k = 1
    · subst c0
      refine ⟨[], ⟨0, 10, 13, 37⟩, [], htab.trans rfl, by decide +kernel, by decide, by decide, by decide +kernel, (fun z hz => absurd hz (by simp)), fun q => ?_⟩
      refine wz_astore_4 C rfl dL_debtsIf_13 ?_
      refine wz_iconst C dL_debtsIf_15 ?_
      exact wz_iret C dL_debtsIf_16 ⟨_, rfl, Or.inr ⟨1, by decide, rfl, hk⟩⟩
    exact absurd (show cdV k = 0 from by
      unfold cdV
      split <;> first | rfl | omega) hk0
  · refine wm_callV C (o := 100) (As := [.int (iZ x1), .int (iZ x2)]) (st := [.int (iZ 0), .ref (kadr G 50)]) (a' := 1) (b' := 6) rfl rfl (k_X11_debtsIf G hG x1 x2 I J _ h) 2 gL_debtsIf_X11_debtsIf rfl (by decide +kernel) (by rw [hX]; exact ⟨Nat.le_of_ble_eq_true rfl, Nat.le_of_ble_eq_true rfl⟩) rfl (Nat.le_of_ble_eq_true rfl) rfl rfl rfl dL_debtsIf_5 (kk_sI (fun v I1 J1 h => ?_))
    refine wd_i2l C dL_debtsIf_8 ?_
    refine wd_lastore C 0 rfl rfl (by decide) (by decide) dL_debtsIf_9 (fun J2 eJ => ?_)
    refine wz_goto C dL_debtsIf_10 (tgt := 17) (by decide) ?_
    refine wz_iconst C dL_debtsIf_17 ?_
    exact wz_iret C dL_debtsIf_18 ⟨_, rfl, Or.inl ⟨rfl, v, J1, h, eJ⟩⟩
set_option maxHeartbeats 4000000 in
set_option maxRecDepth 100000 in
theorem kL_stepsToEnd (G : KG) (hG : Kok G) (hZ : KZx G) (hC : KCx G) (x1 : Int) (I : Ii) (J : Jj) (E : Nat → Ii → Jj → Prop) (Q : Int → Ii → Jj → Prop) (h : wpx_X11_stepsToEnd x1 I J E Q) (hE : ∀ k I J, E k I J → cdI k ≠ 0) : Ctr G yL_stepsToEnd wsL_stepsToEnd rmL [.ref (kadr G 100), .int (iZ x1), .ref (kadr G 50)] (I, J) (QsI (LQ E Q cdI)) := by
  refine Ctr.ofH (cc := cL_stepsToEnd) (nL := 4) (ret := (some .int)) [some (.ref (kadr G 100)), some (.int (iZ x1)), some (.ref (kadr G 50)), none] hG (by decide +kernel) rfl (Nat.le_of_ble_eq_true rfl) (Nat.le_of_ble_eq_true rfl) (by simp [lvA, lv_args, Value.category]) ?_
  intro X hX C htab
  refine wz_aload_n C rfl rfl dL_stepsToEnd_0 ?_
  refine wz_iconst C dL_stepsToEnd_1 ?_
  refine wz_aload_n C rfl rfl dL_stepsToEnd_2 ?_
  refine wz_iload_n C rfl rfl dL_stepsToEnd_3 ?_
  rcases h with h | h
  · refine wl_callX C hC (o := 100) (As := [.int (iZ x1)]) (st := [.int (iZ 0), .ref (kadr G 50)]) (a' := 0) (b' := 0) rfl rfl (kx_X11_stepsToEnd G hG hZ x1 I J _ h) 1 gL_stepsToEnd_X11_stepsToEnd rfl (by decide +kernel) (by rw [hX]; exact ⟨Nat.le_of_ble_eq_true rfl, Nat.le_of_ble_eq_true rfl⟩) rfl (Nat.le_of_ble_eq_true rfl) rfl rfl rfl dL_stepsToEnd_4 (fun k S' hk => ?_)
    obtain ⟨I1, J1⟩ := S'
    have hk : E k I1 J1 := hk
    have hk0 := hE _ _ _ hk
    by_cases c0 : k = 0
    · subst c0
      refine ⟨[], ⟨0, 9, 12, 19⟩, [], htab.trans rfl, by decide +kernel, by decide, by decide, by decide +kernel, (fun z hz => absurd hz (by simp)), fun q => ?_⟩
      refine wz_astore_3 C rfl dL_stepsToEnd_12 ?_
      refine wz_iconst C dL_stepsToEnd_13 ?_
      exact wz_iret C dL_stepsToEnd_14 ⟨_, rfl, Or.inr ⟨0, by decide, rfl, hk⟩⟩
    exact absurd (show cdI k = 0 from by
      unfold cdI
      split <;> first | rfl | omega) hk0
  · refine wm_callV C (o := 100) (As := [.int (iZ x1)]) (st := [.int (iZ 0), .ref (kadr G 50)]) (a' := 1) (b' := 6) rfl rfl (k_X11_stepsToEnd G hG x1 I J _ h) 1 gL_stepsToEnd_X11_stepsToEnd rfl (by decide +kernel) (by rw [hX]; exact ⟨Nat.le_of_ble_eq_true rfl, Nat.le_of_ble_eq_true rfl⟩) rfl (Nat.le_of_ble_eq_true rfl) rfl rfl rfl dL_stepsToEnd_4 (kk_sI (fun v I1 J1 h => ?_))
    refine wd_i2l C dL_stepsToEnd_7 ?_
    refine wd_lastore C 0 rfl rfl (by decide) (by decide) dL_stepsToEnd_8 (fun J2 eJ => ?_)
    refine wz_goto C dL_stepsToEnd_9 (tgt := 15) (by decide) ?_
    refine wz_iconst C dL_stepsToEnd_15 ?_
    exact wz_iret C dL_stepsToEnd_16 ⟨_, rfl, Or.inl ⟨rfl, v, J1, h, eJ⟩⟩
set_option maxHeartbeats 4000000 in
set_option maxRecDepth 100000 in
theorem kL_cutBehind (G : KG) (hG : Kok G) (hZ : KZx G) (hC : KCx G) (x1 : Int) (I : Ii) (J : Jj) (E : Nat → Ii → Jj → Prop) (Q : Int → Ii → Jj → Prop) (h : wpx_X11_cutBehind x1 I J E Q) (hE : ∀ k I J, E k I J → cdI k ≠ 0) : Ctr G yL_cutBehind wsL_cutBehind rmL [.ref (kadr G 100), .int (iZ x1), .ref (kadr G 50)] (I, J) (QsI (LQ E Q cdI)) := by
  refine Ctr.ofH (cc := cL_cutBehind) (nL := 4) (ret := (some .int)) [some (.ref (kadr G 100)), some (.int (iZ x1)), some (.ref (kadr G 50)), none] hG (by decide +kernel) rfl (Nat.le_of_ble_eq_true rfl) (Nat.le_of_ble_eq_true rfl) (by simp [lvA, lv_args, Value.category]) ?_
  intro X hX C htab
  refine wz_aload_n C rfl rfl dL_cutBehind_0 ?_
  refine wz_iconst C dL_cutBehind_1 ?_
  refine wz_aload_n C rfl rfl dL_cutBehind_2 ?_
  refine wz_iload_n C rfl rfl dL_cutBehind_3 ?_
  rcases h with h | h
  · refine wl_callX C hC (o := 100) (As := [.int (iZ x1)]) (st := [.int (iZ 0), .ref (kadr G 50)]) (a' := 0) (b' := 0) rfl rfl (kx_X11_cutBehind G hG hZ x1 I J _ h) 1 gL_cutBehind_X11_cutBehind rfl (by decide +kernel) (by rw [hX]; exact ⟨Nat.le_of_ble_eq_true rfl, Nat.le_of_ble_eq_true rfl⟩) rfl (Nat.le_of_ble_eq_true rfl) rfl rfl rfl dL_cutBehind_4 (fun k S' hk => ?_)
    obtain ⟨I1, J1⟩ := S'
    have hk : E k I1 J1 := hk
    have hk0 := hE _ _ _ hk
    by_cases c0 : k = 0
    · subst c0
      refine ⟨[], ⟨0, 9, 12, 19⟩, [], htab.trans rfl, by decide +kernel, by decide, by decide, by decide +kernel, (fun z hz => absurd hz (by simp)), fun q => ?_⟩
      refine wz_astore_3 C rfl dL_cutBehind_12 ?_
      refine wz_iconst C dL_cutBehind_13 ?_
      exact wz_iret C dL_cutBehind_14 ⟨_, rfl, Or.inr ⟨0, by decide, rfl, hk⟩⟩
    exact absurd (show cdI k = 0 from by
      unfold cdI
      split <;> first | rfl | omega) hk0
  · refine wm_callV C (o := 100) (As := [.int (iZ x1)]) (st := [.int (iZ 0), .ref (kadr G 50)]) (a' := 1) (b' := 6) rfl rfl (k_X11_cutBehind G hG x1 I J _ h) 1 gL_cutBehind_X11_cutBehind rfl (by decide +kernel) (by rw [hX]; exact ⟨Nat.le_of_ble_eq_true rfl, Nat.le_of_ble_eq_true rfl⟩) rfl (Nat.le_of_ble_eq_true rfl) rfl rfl rfl dL_cutBehind_4 (kk_sI (fun v I1 J1 h => ?_))
    refine wd_i2l C dL_cutBehind_7 ?_
    refine wd_lastore C 0 rfl rfl (by decide) (by decide) dL_cutBehind_8 (fun J2 eJ => ?_)
    refine wz_goto C dL_cutBehind_9 (tgt := 15) (by decide) ?_
    refine wz_iconst C dL_cutBehind_15 ?_
    exact wz_iret C dL_cutBehind_16 ⟨_, rfl, Or.inl ⟨rfl, v, J1, h, eJ⟩⟩
set_option maxHeartbeats 4000000 in
set_option maxRecDepth 100000 in
theorem kL_event (G : KG) (hG : Kok G) (hZ : KZx G) (hC : KCx G) (x1 : Int) (x2 : Int) (I : Ii) (J : Jj) (E : Nat → Ii → Jj → Prop) (Q : Int → Ii → Jj → Prop) (h : wpx_X11_event x1 x2 I J E Q) (hE : ∀ k I J, E k I J → cdB k ≠ 0) : Ctr G yL_event wsL_event rmL [.ref (kadr G 100), .int (iZ x1), .int (iZ x2), .ref (kadr G 50)] (I, J) (QsI (LQ E Q cdB)) := by
  refine Ctr.ofH (cc := cL_event) (nL := 5) (ret := (some .int)) [some (.ref (kadr G 100)), some (.int (iZ x1)), some (.int (iZ x2)), some (.ref (kadr G 50)), none] hG (by decide +kernel) rfl (Nat.le_of_ble_eq_true rfl) (Nat.le_of_ble_eq_true rfl) (by simp [lvA, lv_args, Value.category]) ?_
  intro X hX C htab
  refine wz_aload_n C rfl rfl dL_event_0 ?_
  refine wz_iconst C dL_event_1 ?_
  refine wz_aload_n C rfl rfl dL_event_2 ?_
  refine wz_iload_n C rfl rfl dL_event_3 ?_
  refine wz_iload_n C rfl rfl dL_event_4 ?_
  rcases h with h | h
  · refine wl_callX C hC (o := 100) (As := [.int (iZ x1), .int (iZ x2)]) (st := [.int (iZ 0), .ref (kadr G 50)]) (a' := 0) (b' := 0) rfl rfl (kx_X11_event G hG hZ x1 x2 I J _ h) 2 gL_event_X11_event rfl (by decide +kernel) (by rw [hX]; exact ⟨Nat.le_of_ble_eq_true rfl, Nat.le_of_ble_eq_true rfl⟩) rfl (Nat.le_of_ble_eq_true rfl) rfl rfl rfl dL_event_5 (fun k S' hk => ?_)
    obtain ⟨I1, J1⟩ := S'
    have hk : E k I1 J1 := hk
    have hk0 := hE _ _ _ hk
    by_cases c0 : k = 1
    · subst c0
      refine ⟨[], ⟨0, 10, 13, 37⟩, [⟨0, 10, 17, 19⟩], htab.trans rfl, by decide +kernel, by decide, by decide, by decide +kernel, (fun z hz => absurd hz (by simp)), fun q => ?_⟩
      refine wz_astore_4 C rfl dL_event_13 ?_
      refine wz_iconst C dL_event_15 ?_
      exact wz_iret C dL_event_16 ⟨_, rfl, Or.inr ⟨1, by decide, rfl, hk⟩⟩
    by_cases c1 : k = 0
    · subst c1
      refine ⟨[⟨0, 10, 13, 37⟩], ⟨0, 10, 17, 19⟩, [], htab.trans rfl, by decide +kernel, by decide, by decide, by decide +kernel, (fun z hz => by
          simp only [List.mem_cons, List.not_mem_nil, or_false] at hz
          subst hz
          exact ⟨by decide, 1, by decide, by decide, by decide +kernel⟩), fun q => ?_⟩
      refine wz_astore_4 C rfl dL_event_17 ?_
      refine wz_iconst C dL_event_19 ?_
      exact wz_iret C dL_event_20 ⟨_, rfl, Or.inr ⟨0, by decide, rfl, hk⟩⟩
    exact absurd (show cdB k = 0 from by
      unfold cdB
      split <;> first | rfl | omega) hk0
  · refine wm_callV C (o := 100) (As := [.int (iZ x1), .int (iZ x2)]) (st := [.int (iZ 0), .ref (kadr G 50)]) (a' := 1) (b' := 6) rfl rfl (k_X11_event G hG x1 x2 I J _ h) 2 gL_event_X11_event rfl (by decide +kernel) (by rw [hX]; exact ⟨Nat.le_of_ble_eq_true rfl, Nat.le_of_ble_eq_true rfl⟩) rfl (Nat.le_of_ble_eq_true rfl) rfl rfl rfl dL_event_5 (kk_sI (fun v I1 J1 h => ?_))
    refine wd_i2l C dL_event_8 ?_
    refine wd_lastore C 0 rfl rfl (by decide) (by decide) dL_event_9 (fun J2 eJ => ?_)
    refine wz_goto C dL_event_10 (tgt := 21) (by decide) ?_
    refine wz_iconst C dL_event_21 ?_
    exact wz_iret C dL_event_22 ⟨_, rfl, Or.inl ⟨rfl, v, J1, h, eJ⟩⟩
set_option maxHeartbeats 4000000 in
set_option maxRecDepth 100000 in
theorem kL_shrink (G : KG) (hG : Kok G) (hZ : KZx G) (hC : KCx G) (I : Ii) (J : Jj) (E : Nat → Ii → Jj → Prop) (Q : Int → Ii → Jj → Prop) (h : wpx_X11_shrink I J E Q) (hE : ∀ k I J, E k I J → cdS k ≠ 0) : Ctr G yL_shrink wsL_shrink rmL [.ref (kadr G 100), .ref (kadr G 50)] (I, J) (QsI (LQ E Q cdS)) := by
  refine Ctr.ofH (cc := cL_shrink) (nL := 3) (ret := (some .int)) [some (.ref (kadr G 100)), some (.ref (kadr G 50)), none] hG (by decide +kernel) rfl (Nat.le_of_ble_eq_true rfl) (Nat.le_of_ble_eq_true rfl) (by simp [lvA, lv_args, Value.category]) ?_
  intro X hX C htab
  refine wz_aload_n C rfl rfl dL_shrink_0 ?_
  refine wz_iconst C dL_shrink_1 ?_
  refine wz_aload_n C rfl rfl dL_shrink_2 ?_
  rcases h with h | h
  · refine wl_callX C hC (o := 100) (As := []) (st := [.int (iZ 0), .ref (kadr G 50)]) (a' := 0) (b' := 0) rfl rfl (kx_X11_shrink G hG hZ I J _ h) 0 gL_shrink_X11_shrink rfl (by decide +kernel) (by rw [hX]; exact ⟨Nat.le_of_ble_eq_true rfl, Nat.le_of_ble_eq_true rfl⟩) rfl (Nat.le_of_ble_eq_true rfl) rfl rfl rfl dL_shrink_3 (fun k S' hk => ?_)
    obtain ⟨I1, J1⟩ := S'
    have hk : E k I1 J1 := hk
    have hk0 := hE _ _ _ hk
    by_cases c0 : k = 2
    · subst c0
      refine ⟨[], ⟨0, 8, 11, 13⟩, [], htab.trans rfl, by decide +kernel, by decide, by decide, by decide +kernel, (fun z hz => absurd hz (by simp)), fun q => ?_⟩
      refine wz_astore_2 C rfl dL_shrink_11 ?_
      refine wz_iconst C dL_shrink_12 ?_
      exact wz_iret C dL_shrink_13 ⟨_, rfl, Or.inr ⟨2, by decide, rfl, hk⟩⟩
    exact absurd (show cdS k = 0 from by
      unfold cdS
      split <;> first | rfl | omega) hk0
  · refine wm_callV C (o := 100) (As := []) (st := [.int (iZ 0), .ref (kadr G 50)]) (a' := 1) (b' := 6) rfl rfl (k_X11_shrink G hG I J _ h) 0 gL_shrink_X11_shrink rfl (by decide +kernel) (by rw [hX]; exact ⟨Nat.le_of_ble_eq_true rfl, Nat.le_of_ble_eq_true rfl⟩) rfl (Nat.le_of_ble_eq_true rfl) rfl rfl rfl dL_shrink_3 (kk_sI (fun v I1 J1 h => ?_))
    refine wd_i2l C dL_shrink_6 ?_
    refine wd_lastore C 0 rfl rfl (by decide) (by decide) dL_shrink_7 (fun J2 eJ => ?_)
    refine wz_goto C dL_shrink_8 (tgt := 14) (by decide) ?_
    refine wz_iconst C dL_shrink_14 ?_
    exact wz_iret C dL_shrink_15 ⟨_, rfl, Or.inl ⟨rfl, v, J1, h, eJ⟩⟩
set_option maxHeartbeats 4000000 in
set_option maxRecDepth 100000 in
theorem kL_grow (G : KG) (hG : Kok G) (hZ : KZx G) (hC : KCx G) (I : Ii) (J : Jj) (E : Nat → Ii → Jj → Prop) (Q : Int → Ii → Jj → Prop) (h : wpx_X11_grow I J E Q) (hE : ∀ k I J, E k I J → cdS k ≠ 0) : Ctr G yL_grow wsL_grow rmL [.ref (kadr G 100), .ref (kadr G 50)] (I, J) (QsI (LQ E Q cdS)) := by
  refine Ctr.ofH (cc := cL_grow) (nL := 3) (ret := (some .int)) [some (.ref (kadr G 100)), some (.ref (kadr G 50)), none] hG (by decide +kernel) rfl (Nat.le_of_ble_eq_true rfl) (Nat.le_of_ble_eq_true rfl) (by simp [lvA, lv_args, Value.category]) ?_
  intro X hX C htab
  refine wz_aload_n C rfl rfl dL_grow_0 ?_
  refine wz_iconst C dL_grow_1 ?_
  refine wz_aload_n C rfl rfl dL_grow_2 ?_
  rcases h with h | h
  · refine wl_callX C hC (o := 100) (As := []) (st := [.int (iZ 0), .ref (kadr G 50)]) (a' := 0) (b' := 0) rfl rfl (kx_X11_grow G hG hZ I J _ h) 0 gL_grow_X11_grow rfl (by decide +kernel) (by rw [hX]; exact ⟨Nat.le_of_ble_eq_true rfl, Nat.le_of_ble_eq_true rfl⟩) rfl (Nat.le_of_ble_eq_true rfl) rfl rfl rfl dL_grow_3 (fun k S' hk => ?_)
    obtain ⟨I1, J1⟩ := S'
    have hk : E k I1 J1 := hk
    have hk0 := hE _ _ _ hk
    by_cases c0 : k = 2
    · subst c0
      refine ⟨[], ⟨0, 8, 11, 13⟩, [], htab.trans rfl, by decide +kernel, by decide, by decide, by decide +kernel, (fun z hz => absurd hz (by simp)), fun q => ?_⟩
      refine wz_astore_2 C rfl dL_grow_11 ?_
      refine wz_iconst C dL_grow_12 ?_
      exact wz_iret C dL_grow_13 ⟨_, rfl, Or.inr ⟨2, by decide, rfl, hk⟩⟩
    exact absurd (show cdS k = 0 from by
      unfold cdS
      split <;> first | rfl | omega) hk0
  · refine wm_callV C (o := 100) (As := []) (st := [.int (iZ 0), .ref (kadr G 50)]) (a' := 1) (b' := 6) rfl rfl (k_X11_grow G hG I J _ h) 0 gL_grow_X11_grow rfl (by decide +kernel) (by rw [hX]; exact ⟨Nat.le_of_ble_eq_true rfl, Nat.le_of_ble_eq_true rfl⟩) rfl (Nat.le_of_ble_eq_true rfl) rfl rfl rfl dL_grow_3 (kk_sI (fun v I1 J1 h => ?_))
    refine wd_i2l C dL_grow_6 ?_
    refine wd_lastore C 0 rfl rfl (by decide) (by decide) dL_grow_7 (fun J2 eJ => ?_)
    refine wz_goto C dL_grow_8 (tgt := 14) (by decide) ?_
    refine wz_iconst C dL_grow_14 ?_
    exact wz_iret C dL_grow_15 ⟨_, rfl, Or.inl ⟨rfl, v, J1, h, eJ⟩⟩
set_option maxHeartbeats 4000000 in
set_option maxRecDepth 100000 in
theorem kL_move (G : KG) (hG : Kok G) (hZ : KZx G) (hC : KCx G) (x1 : Int) (x2 : Int) (I : Ii) (J : Jj) (E : Nat → Ii → Jj → Prop) (Q : Int → Ii → Jj → Prop) (h : wpx_X11_move x1 x2 I J E Q) (hE : ∀ k I J, E k I J → cdM k ≠ 0) : Ctr G yL_move wsL_move rmL [.ref (kadr G 100), .int (iZ x1), .int (iZ x2), .ref (kadr G 50)] (I, J) (QsI (LQ E Q cdM)) := by
  refine Ctr.ofH (cc := cL_move) (nL := 5) (ret := (some .int)) [some (.ref (kadr G 100)), some (.int (iZ x1)), some (.int (iZ x2)), some (.ref (kadr G 50)), none] hG (by decide +kernel) rfl (Nat.le_of_ble_eq_true rfl) (Nat.le_of_ble_eq_true rfl) (by simp [lvA, lv_args, Value.category]) ?_
  intro X hX C htab
  refine wz_aload_n C rfl rfl dL_move_0 ?_
  refine wz_iconst C dL_move_1 ?_
  refine wz_aload_n C rfl rfl dL_move_2 ?_
  refine wz_iload_n C rfl rfl dL_move_3 ?_
  refine wz_iload_n C rfl rfl dL_move_4 ?_
  rcases h with h | h
  · refine wl_callX C hC (o := 100) (As := [.int (iZ x1), .int (iZ x2)]) (st := [.int (iZ 0), .ref (kadr G 50)]) (a' := 0) (b' := 0) rfl rfl (kx_X11_move G hG hZ x1 x2 I J _ h) 2 gL_move_X11_move rfl (by decide +kernel) (by rw [hX]; exact ⟨Nat.le_of_ble_eq_true rfl, Nat.le_of_ble_eq_true rfl⟩) rfl (Nat.le_of_ble_eq_true rfl) rfl rfl rfl dL_move_5 (fun k S' hk => ?_)
    obtain ⟨I1, J1⟩ := S'
    have hk : E k I1 J1 := hk
    have hk0 := hE _ _ _ hk
    by_cases c0 : k = 1
    · subst c0
      refine ⟨[], ⟨0, 10, 13, 37⟩, [⟨0, 10, 17, 13⟩], htab.trans rfl, by decide +kernel, by decide, by decide, by decide +kernel, (fun z hz => absurd hz (by simp)), fun q => ?_⟩
      refine wz_astore_4 C rfl dL_move_13 ?_
      refine wz_iconst C dL_move_15 ?_
      exact wz_iret C dL_move_16 ⟨_, rfl, Or.inr ⟨1, by decide, rfl, hk⟩⟩
    by_cases c1 : k = 2
    · subst c1
      refine ⟨[⟨0, 10, 13, 37⟩], ⟨0, 10, 17, 13⟩, [], htab.trans rfl, by decide +kernel, by decide, by decide, by decide +kernel, (fun z hz => by
          simp only [List.mem_cons, List.not_mem_nil, or_false] at hz
          subst hz
          exact ⟨by decide, 1, by decide, by decide, by decide +kernel⟩), fun q => ?_⟩
      refine wz_astore_4 C rfl dL_move_17 ?_
      refine wz_iconst C dL_move_19 ?_
      exact wz_iret C dL_move_20 ⟨_, rfl, Or.inr ⟨2, by decide, rfl, hk⟩⟩
    exact absurd (show cdM k = 0 from by
      unfold cdM
      split <;> first | rfl | omega) hk0
  · refine wm_callV C (o := 100) (As := [.int (iZ x1), .int (iZ x2)]) (st := [.int (iZ 0), .ref (kadr G 50)]) (a' := 1) (b' := 6) rfl rfl (k_X11_move G hG x1 x2 I J _ h) 2 gL_move_X11_move rfl (by decide +kernel) (by rw [hX]; exact ⟨Nat.le_of_ble_eq_true rfl, Nat.le_of_ble_eq_true rfl⟩) rfl (Nat.le_of_ble_eq_true rfl) rfl rfl rfl dL_move_5 (kk_sI (fun v I1 J1 h => ?_))
    refine wd_i2l C dL_move_8 ?_
    refine wd_lastore C 0 rfl rfl (by decide) (by decide) dL_move_9 (fun J2 eJ => ?_)
    refine wz_goto C dL_move_10 (tgt := 21) (by decide) ?_
    refine wz_iconst C dL_move_21 ?_
    exact wz_iret C dL_move_22 ⟨_, rfl, Or.inl ⟨rfl, v, J1, h, eJ⟩⟩
set_option maxHeartbeats 4000000 in
set_option maxRecDepth 100000 in
theorem kL_steps (G : KG) (hG : Kok G) (hZ : KZx G) (hC : KCx G) (x1 : Int) (I : Ii) (J : Jj) (E : Nat → Ii → Jj → Prop) (Q : Int → Ii → Jj → Prop) (h : wpx_X11_steps x1 I J E Q) (hE : ∀ k I J, E k I J → cdI k ≠ 0) : Ctr G yL_steps wsL_steps rmL [.ref (kadr G 100), .int (iZ x1), .ref (kadr G 50)] (I, J) (QsI (LQ E Q cdI)) := by
  refine Ctr.ofH (cc := cL_steps) (nL := 4) (ret := (some .int)) [some (.ref (kadr G 100)), some (.int (iZ x1)), some (.ref (kadr G 50)), none] hG (by decide +kernel) rfl (Nat.le_of_ble_eq_true rfl) (Nat.le_of_ble_eq_true rfl) (by simp [lvA, lv_args, Value.category]) ?_
  intro X hX C htab
  refine wz_aload_n C rfl rfl dL_steps_0 ?_
  refine wz_iconst C dL_steps_1 ?_
  refine wz_aload_n C rfl rfl dL_steps_2 ?_
  refine wz_iload_n C rfl rfl dL_steps_3 ?_
  rcases h with h | h
  · refine wl_callX C hC (o := 100) (As := [.int (iZ x1)]) (st := [.int (iZ 0), .ref (kadr G 50)]) (a' := 0) (b' := 0) rfl rfl (kx_X11_steps G hG hZ x1 I J _ h) 1 gL_steps_X11_steps rfl (by decide +kernel) (by rw [hX]; exact ⟨Nat.le_of_ble_eq_true rfl, Nat.le_of_ble_eq_true rfl⟩) rfl (Nat.le_of_ble_eq_true rfl) rfl rfl rfl dL_steps_4 (fun k S' hk => ?_)
    obtain ⟨I1, J1⟩ := S'
    have hk : E k I1 J1 := hk
    have hk0 := hE _ _ _ hk
    by_cases c0 : k = 0
    · subst c0
      refine ⟨[], ⟨0, 9, 12, 19⟩, [], htab.trans rfl, by decide +kernel, by decide, by decide, by decide +kernel, (fun z hz => absurd hz (by simp)), fun q => ?_⟩
      refine wz_astore_3 C rfl dL_steps_12 ?_
      refine wz_iconst C dL_steps_13 ?_
      exact wz_iret C dL_steps_14 ⟨_, rfl, Or.inr ⟨0, by decide, rfl, hk⟩⟩
    exact absurd (show cdI k = 0 from by
      unfold cdI
      split <;> first | rfl | omega) hk0
  · refine wm_callV C (o := 100) (As := [.int (iZ x1)]) (st := [.int (iZ 0), .ref (kadr G 50)]) (a' := 1) (b' := 6) rfl rfl (k_X11_steps G hG x1 I J _ h) 1 gL_steps_X11_steps rfl (by decide +kernel) (by rw [hX]; exact ⟨Nat.le_of_ble_eq_true rfl, Nat.le_of_ble_eq_true rfl⟩) rfl (Nat.le_of_ble_eq_true rfl) rfl rfl rfl dL_steps_4 (kk_sI (fun v I1 J1 h => ?_))
    refine wd_i2l C dL_steps_7 ?_
    refine wd_lastore C 0 rfl rfl (by decide) (by decide) dL_steps_8 (fun J2 eJ => ?_)
    refine wz_goto C dL_steps_9 (tgt := 15) (by decide) ?_
    refine wz_iconst C dL_steps_15 ?_
    exact wz_iret C dL_steps_16 ⟨_, rfl, Or.inl ⟨rfl, v, J1, h, eJ⟩⟩
set_option maxHeartbeats 4000000 in
set_option maxRecDepth 100000 in
theorem kL_placeBest (G : KG) (hG : Kok G) (hZ : KZx G) (hC : KCx G) (I : Ii) (J : Jj) (E : Nat → Ii → Jj → Prop) (Q : Int → Ii → Jj → Prop) (h : wpx_X11_placeBest I J E Q) (hE : ∀ k I J, E k I J → cdS k ≠ 0) : Ctr G yL_placeBest wsL_placeBest rmL [.ref (kadr G 100), .ref (kadr G 50)] (I, J) (QsI (LQ E Q cdS)) := by
  refine Ctr.ofH (cc := cL_placeBest) (nL := 3) (ret := (some .int)) [some (.ref (kadr G 100)), some (.ref (kadr G 50)), none] hG (by decide +kernel) rfl (Nat.le_of_ble_eq_true rfl) (Nat.le_of_ble_eq_true rfl) (by simp [lvA, lv_args, Value.category]) ?_
  intro X hX C htab
  refine wz_aload_n C rfl rfl dL_placeBest_0 ?_
  refine wz_iconst C dL_placeBest_1 ?_
  refine wz_aload_n C rfl rfl dL_placeBest_2 ?_
  rcases h with h | h
  · refine wl_callX C hC (o := 100) (As := []) (st := [.int (iZ 0), .ref (kadr G 50)]) (a' := 0) (b' := 0) rfl rfl (kx_X11_placeBest G hG hZ I J _ h) 0 gL_placeBest_X11_placeBest rfl (by decide +kernel) (by rw [hX]; exact ⟨Nat.le_of_ble_eq_true rfl, Nat.le_of_ble_eq_true rfl⟩) rfl (Nat.le_of_ble_eq_true rfl) rfl rfl rfl dL_placeBest_3 (fun k S' hk => ?_)
    obtain ⟨I1, J1⟩ := S'
    have hk : E k I1 J1 := hk
    have hk0 := hE _ _ _ hk
    by_cases c0 : k = 2
    · subst c0
      refine ⟨[], ⟨0, 8, 11, 13⟩, [], htab.trans rfl, by decide +kernel, by decide, by decide, by decide +kernel, (fun z hz => absurd hz (by simp)), fun q => ?_⟩
      refine wz_astore_2 C rfl dL_placeBest_11 ?_
      refine wz_iconst C dL_placeBest_12 ?_
      exact wz_iret C dL_placeBest_13 ⟨_, rfl, Or.inr ⟨2, by decide, rfl, hk⟩⟩
    exact absurd (show cdS k = 0 from by
      unfold cdS
      split <;> first | rfl | omega) hk0
  · refine wm_callV C (o := 100) (As := []) (st := [.int (iZ 0), .ref (kadr G 50)]) (a' := 1) (b' := 6) rfl rfl (k_X11_placeBest G hG I J _ h) 0 gL_placeBest_X11_placeBest rfl (by decide +kernel) (by rw [hX]; exact ⟨Nat.le_of_ble_eq_true rfl, Nat.le_of_ble_eq_true rfl⟩) rfl (Nat.le_of_ble_eq_true rfl) rfl rfl rfl dL_placeBest_3 (kk_sI (fun v I1 J1 h => ?_))
    refine wd_i2l C dL_placeBest_6 ?_
    refine wd_lastore C 0 rfl rfl (by decide) (by decide) dL_placeBest_7 (fun J2 eJ => ?_)
    refine wz_goto C dL_placeBest_8 (tgt := 14) (by decide) ?_
    refine wz_iconst C dL_placeBest_14 ?_
    exact wz_iret C dL_placeBest_15 ⟨_, rfl, Or.inl ⟨rfl, v, J1, h, eJ⟩⟩
set_option maxHeartbeats 4000000 in
set_option maxRecDepth 100000 in
theorem kL_placeApart (G : KG) (hG : Kok G) (hZ : KZx G) (hC : KCx G) (x1 : Int) (x2 : Int) (I : Ii) (J : Jj) (E : Nat → Ii → Jj → Prop) (Q : Int → Ii → Jj → Prop) (h : wpx_X11_placeApart x1 x2 I J E Q) (hE : ∀ k I J, E k I J → cdA k ≠ 0) : Ctr G yL_placeApart wsL_placeApart rmL [.ref (kadr G 100), .int (iZ x1), .int (iZ x2), .ref (kadr G 50)] (I, J) (QsI (LQ E Q cdA)) := by
  refine Ctr.ofH (cc := cL_placeApart) (nL := 5) (ret := (some .int)) [some (.ref (kadr G 100)), some (.int (iZ x1)), some (.int (iZ x2)), some (.ref (kadr G 50)), none] hG (by decide +kernel) rfl (Nat.le_of_ble_eq_true rfl) (Nat.le_of_ble_eq_true rfl) (by simp [lvA, lv_args, Value.category]) ?_
  intro X hX C htab
  refine wz_aload_n C rfl rfl dL_placeApart_0 ?_
  refine wz_iconst C dL_placeApart_1 ?_
  refine wz_aload_n C rfl rfl dL_placeApart_2 ?_
  refine wz_iload_n C rfl rfl dL_placeApart_3 ?_
  refine wz_iload_n C rfl rfl dL_placeApart_4 ?_
  rcases h with h | h
  · refine wl_callX C hC (o := 100) (As := [.int (iZ x1), .int (iZ x2)]) (st := [.int (iZ 0), .ref (kadr G 50)]) (a' := 0) (b' := 0) rfl rfl (kx_X11_placeApart G hG hZ x1 x2 I J _ h) 2 gL_placeApart_X11_placeApart rfl (by decide +kernel) (by rw [hX]; exact ⟨Nat.le_of_ble_eq_true rfl, Nat.le_of_ble_eq_true rfl⟩) rfl (Nat.le_of_ble_eq_true rfl) rfl rfl rfl dL_placeApart_5 (fun k S' hk => ?_)
    obtain ⟨I1, J1⟩ := S'
    have hk : E k I1 J1 := hk
    have hk0 := hE _ _ _ hk
    by_cases c0 : k = 1
    · subst c0
      refine ⟨[], ⟨0, 10, 13, 37⟩, [⟨0, 10, 17, 19⟩, ⟨0, 10, 21, 13⟩], htab.trans rfl, by decide +kernel, by decide, by decide, by decide +kernel, (fun z hz => absurd hz (by simp)), fun q => ?_⟩
      refine wz_astore_4 C rfl dL_placeApart_13 ?_
      refine wz_iconst C dL_placeApart_15 ?_
      exact wz_iret C dL_placeApart_16 ⟨_, rfl, Or.inr ⟨1, by decide, rfl, hk⟩⟩
    by_cases c1 : k = 0
    · subst c1
      refine ⟨[⟨0, 10, 13, 37⟩], ⟨0, 10, 17, 19⟩, [⟨0, 10, 21, 13⟩], htab.trans rfl, by decide +kernel, by decide, by decide, by decide +kernel, (fun z hz => by
          simp only [List.mem_cons, List.not_mem_nil, or_false] at hz
          subst hz
          exact ⟨by decide, 1, by decide, by decide, by decide +kernel⟩), fun q => ?_⟩
      refine wz_astore_4 C rfl dL_placeApart_17 ?_
      refine wz_iconst C dL_placeApart_19 ?_
      exact wz_iret C dL_placeApart_20 ⟨_, rfl, Or.inr ⟨0, by decide, rfl, hk⟩⟩
    by_cases c2 : k = 2
    · subst c2
      refine ⟨[⟨0, 10, 13, 37⟩, ⟨0, 10, 17, 19⟩], ⟨0, 10, 21, 13⟩, [], htab.trans rfl, by decide +kernel, by decide, by decide, by decide +kernel, (fun z hz => by
          simp only [List.mem_cons, List.not_mem_nil, or_false] at hz
          rcases hz with rfl | rfl
          · exact ⟨by decide, 1, by decide, by decide, by decide +kernel⟩
          · exact ⟨by decide, 0, by decide, by decide, by decide +kernel⟩), fun q => ?_⟩
      refine wz_astore_4 C rfl dL_placeApart_21 ?_
      refine wz_iconst C dL_placeApart_23 ?_
      exact wz_iret C dL_placeApart_24 ⟨_, rfl, Or.inr ⟨2, by decide, rfl, hk⟩⟩
    exact absurd (show cdA k = 0 from by
      unfold cdA
      split <;> first | rfl | omega) hk0
  · refine wm_callV C (o := 100) (As := [.int (iZ x1), .int (iZ x2)]) (st := [.int (iZ 0), .ref (kadr G 50)]) (a' := 1) (b' := 6) rfl rfl (k_X11_placeApart G hG x1 x2 I J _ h) 2 gL_placeApart_X11_placeApart rfl (by decide +kernel) (by rw [hX]; exact ⟨Nat.le_of_ble_eq_true rfl, Nat.le_of_ble_eq_true rfl⟩) rfl (Nat.le_of_ble_eq_true rfl) rfl rfl rfl dL_placeApart_5 (kk_sI (fun v I1 J1 h => ?_))
    refine wd_i2l C dL_placeApart_8 ?_
    refine wd_lastore C 0 rfl rfl (by decide) (by decide) dL_placeApart_9 (fun J2 eJ => ?_)
    refine wz_goto C dL_placeApart_10 (tgt := 25) (by decide) ?_
    refine wz_iconst C dL_placeApart_25 ?_
    exact wz_iret C dL_placeApart_26 ⟨_, rfl, Or.inl ⟨rfl, v, J1, h, eJ⟩⟩
set_option maxHeartbeats 4000000 in
set_option maxRecDepth 100000 in
theorem kL_setCredit (G : KG) (hG : Kok G) (hZ : KZx G) (hC : KCx G) (x1 : Int) (I : Ii) (J : Jj) (E : Nat → Ii → Jj → Prop) (Q : Int → Ii → Jj → Prop) (h : wpx_X11_setCredit x1 I J E Q) (hE : ∀ k I J, E k I J → cdI k ≠ 0) : Ctr G yL_setCredit wsL_setCredit rmL [.ref (kadr G 100), .int (iZ x1), .ref (kadr G 50)] (I, J) (QsI (LQ E Q cdI)) := by
  refine Ctr.ofH (cc := cL_setCredit) (nL := 4) (ret := (some .int)) [some (.ref (kadr G 100)), some (.int (iZ x1)), some (.ref (kadr G 50)), none] hG (by decide +kernel) rfl (Nat.le_of_ble_eq_true rfl) (Nat.le_of_ble_eq_true rfl) (by simp [lvA, lv_args, Value.category]) ?_
  intro X hX C htab
  refine wz_aload_n C rfl rfl dL_setCredit_0 ?_
  refine wz_iconst C dL_setCredit_1 ?_
  refine wz_aload_n C rfl rfl dL_setCredit_2 ?_
  refine wz_iload_n C rfl rfl dL_setCredit_3 ?_
  rcases h with h | h
  · refine wl_callX C hC (o := 100) (As := [.int (iZ x1)]) (st := [.int (iZ 0), .ref (kadr G 50)]) (a' := 0) (b' := 0) rfl rfl (kx_X11_setCredit G hG hZ x1 I J _ h) 1 gL_setCredit_X11_setCredit rfl (by decide +kernel) (by rw [hX]; exact ⟨Nat.le_of_ble_eq_true rfl, Nat.le_of_ble_eq_true rfl⟩) rfl (Nat.le_of_ble_eq_true rfl) rfl rfl rfl dL_setCredit_4 (fun k S' hk => ?_)
    obtain ⟨I1, J1⟩ := S'
    have hk : E k I1 J1 := hk
    have hk0 := hE _ _ _ hk
    by_cases c0 : k = 0
    · subst c0
      refine ⟨[], ⟨0, 9, 12, 19⟩, [], htab.trans rfl, by decide +kernel, by decide, by decide, by decide +kernel, (fun z hz => absurd hz (by simp)), fun q => ?_⟩
      refine wz_astore_3 C rfl dL_setCredit_12 ?_
      refine wz_iconst C dL_setCredit_13 ?_
      exact wz_iret C dL_setCredit_14 ⟨_, rfl, Or.inr ⟨0, by decide, rfl, hk⟩⟩
    exact absurd (show cdI k = 0 from by
      unfold cdI
      split <;> first | rfl | omega) hk0
  · refine wm_callV C (o := 100) (As := [.int (iZ x1)]) (st := [.int (iZ 0), .ref (kadr G 50)]) (a' := 1) (b' := 6) rfl rfl (k_X11_setCredit G hG x1 I J _ h) 1 gL_setCredit_X11_setCredit rfl (by decide +kernel) (by rw [hX]; exact ⟨Nat.le_of_ble_eq_true rfl, Nat.le_of_ble_eq_true rfl⟩) rfl (Nat.le_of_ble_eq_true rfl) rfl rfl rfl dL_setCredit_4 (kk_sI (fun v I1 J1 h => ?_))
    refine wd_i2l C dL_setCredit_7 ?_
    refine wd_lastore C 0 rfl rfl (by decide) (by decide) dL_setCredit_8 (fun J2 eJ => ?_)
    refine wz_goto C dL_setCredit_9 (tgt := 15) (by decide) ?_
    refine wz_iconst C dL_setCredit_15 ?_
    exact wz_iret C dL_setCredit_16 ⟨_, rfl, Or.inl ⟨rfl, v, J1, h, eJ⟩⟩
set_option maxHeartbeats 4000000 in
set_option maxRecDepth 100000 in
theorem kL_reportByte (G : KG) (hG : Kok G) (hZ : KZx G) (hC : KCx G) (x1 : Int) (I : Ii) (J : Jj) (E : Nat → Ii → Jj → Prop) (Q : Int → Ii → Jj → Prop) (h : wpx_X11_reportByte x1 I J E Q) (hE : ∀ k I J, E k I J → cdV k ≠ 0) : Ctr G yL_reportByte wsL_reportByte rmL [.ref (kadr G 100), .int (iZ x1), .ref (kadr G 50)] (I, J) (QsI (LQ E Q cdV)) := by
  refine Ctr.ofH (cc := cL_reportByte) (nL := 4) (ret := (some .int)) [some (.ref (kadr G 100)), some (.int (iZ x1)), some (.ref (kadr G 50)), none] hG (by decide +kernel) rfl (Nat.le_of_ble_eq_true rfl) (Nat.le_of_ble_eq_true rfl) (by simp [lvA, lv_args, Value.category]) ?_
  intro X hX C htab
  refine wz_aload_n C rfl rfl dL_reportByte_0 ?_
  refine wz_iconst C dL_reportByte_1 ?_
  refine wz_aload_n C rfl rfl dL_reportByte_2 ?_
  refine wz_iload_n C rfl rfl dL_reportByte_3 ?_
  rcases h with h | h
  · refine wl_callX C hC (o := 100) (As := [.int (iZ x1)]) (st := [.int (iZ 0), .ref (kadr G 50)]) (a' := 0) (b' := 0) rfl rfl (kx_X11_reportByte G hG hZ x1 I J _ h) 1 gL_reportByte_X11_reportByte rfl (by decide +kernel) (by rw [hX]; exact ⟨Nat.le_of_ble_eq_true rfl, Nat.le_of_ble_eq_true rfl⟩) rfl (Nat.le_of_ble_eq_true rfl) rfl rfl rfl dL_reportByte_4 (fun k S' hk => ?_)
    obtain ⟨I1, J1⟩ := S'
    have hk : E k I1 J1 := hk
    have hk0 := hE _ _ _ hk
    by_cases c0 : k = 1
    · subst c0
      refine ⟨[], ⟨0, 9, 12, 37⟩, [], htab.trans rfl, by decide +kernel, by decide, by decide, by decide +kernel, (fun z hz => absurd hz (by simp)), fun q => ?_⟩
      refine wz_astore_3 C rfl dL_reportByte_12 ?_
      refine wz_iconst C dL_reportByte_13 ?_
      exact wz_iret C dL_reportByte_14 ⟨_, rfl, Or.inr ⟨1, by decide, rfl, hk⟩⟩
    exact absurd (show cdV k = 0 from by
      unfold cdV
      split <;> first | rfl | omega) hk0
  · refine wm_callV C (o := 100) (As := [.int (iZ x1)]) (st := [.int (iZ 0), .ref (kadr G 50)]) (a' := 1) (b' := 6) rfl rfl (k_X11_reportByte G hG x1 I J _ h) 1 gL_reportByte_X11_reportByte rfl (by decide +kernel) (by rw [hX]; exact ⟨Nat.le_of_ble_eq_true rfl, Nat.le_of_ble_eq_true rfl⟩) rfl (Nat.le_of_ble_eq_true rfl) rfl rfl rfl dL_reportByte_4 (kk_sI (fun v I1 J1 h => ?_))
    refine wd_i2l C dL_reportByte_7 ?_
    refine wd_lastore C 0 rfl rfl (by decide) (by decide) dL_reportByte_8 (fun J2 eJ => ?_)
    refine wz_goto C dL_reportByte_9 (tgt := 15) (by decide) ?_
    refine wz_iconst C dL_reportByte_15 ?_
    exact wz_iret C dL_reportByte_16 ⟨_, rfl, Or.inl ⟨rfl, v, J1, h, eJ⟩⟩
set_option maxHeartbeats 4000000 in
set_option maxRecDepth 100000 in
theorem kL_restore (G : KG) (hG : Kok G) (hZ : KZx G) (hC : KCx G) (I : Ii) (J : Jj) (E : Nat → Ii → Jj → Prop) (Q : Int → Ii → Jj → Prop) (h : wpx_X11_restore I J E Q) (hE : ∀ k I J, E k I J → cdS k ≠ 0) : Ctr G yL_restore wsL_restore rmL [.ref (kadr G 100), .ref (kadr G 50)] (I, J) (QsI (LQ E Q cdS)) := by
  refine Ctr.ofH (cc := cL_restore) (nL := 3) (ret := (some .int)) [some (.ref (kadr G 100)), some (.ref (kadr G 50)), none] hG (by decide +kernel) rfl (Nat.le_of_ble_eq_true rfl) (Nat.le_of_ble_eq_true rfl) (by simp [lvA, lv_args, Value.category]) ?_
  intro X hX C htab
  refine wz_aload_n C rfl rfl dL_restore_0 ?_
  refine wz_iconst C dL_restore_1 ?_
  refine wz_aload_n C rfl rfl dL_restore_2 ?_
  rcases h with h | h
  · refine wl_callX C hC (o := 100) (As := []) (st := [.int (iZ 0), .ref (kadr G 50)]) (a' := 0) (b' := 0) rfl rfl (kx_X11_restore G hG hZ I J _ h) 0 gL_restore_X11_restore rfl (by decide +kernel) (by rw [hX]; exact ⟨Nat.le_of_ble_eq_true rfl, Nat.le_of_ble_eq_true rfl⟩) rfl (Nat.le_of_ble_eq_true rfl) rfl rfl rfl dL_restore_3 (fun k S' hk => ?_)
    obtain ⟨I1, J1⟩ := S'
    have hk : E k I1 J1 := hk
    have hk0 := hE _ _ _ hk
    by_cases c0 : k = 2
    · subst c0
      refine ⟨[], ⟨0, 8, 11, 13⟩, [], htab.trans rfl, by decide +kernel, by decide, by decide, by decide +kernel, (fun z hz => absurd hz (by simp)), fun q => ?_⟩
      refine wz_astore_2 C rfl dL_restore_11 ?_
      refine wz_iconst C dL_restore_12 ?_
      exact wz_iret C dL_restore_13 ⟨_, rfl, Or.inr ⟨2, by decide, rfl, hk⟩⟩
    exact absurd (show cdS k = 0 from by
      unfold cdS
      split <;> first | rfl | omega) hk0
  · refine wm_callV C (o := 100) (As := []) (st := [.int (iZ 0), .ref (kadr G 50)]) (a' := 1) (b' := 6) rfl rfl (k_X11_restore G hG I J _ h) 0 gL_restore_X11_restore rfl (by decide +kernel) (by rw [hX]; exact ⟨Nat.le_of_ble_eq_true rfl, Nat.le_of_ble_eq_true rfl⟩) rfl (Nat.le_of_ble_eq_true rfl) rfl rfl rfl dL_restore_3 (kk_sI (fun v I1 J1 h => ?_))
    refine wd_i2l C dL_restore_6 ?_
    refine wd_lastore C 0 rfl rfl (by decide) (by decide) dL_restore_7 (fun J2 eJ => ?_)
    refine wz_goto C dL_restore_8 (tgt := 14) (by decide) ?_
    refine wz_iconst C dL_restore_14 ?_
    exact wz_iret C dL_restore_15 ⟨_, rfl, Or.inl ⟨rfl, v, J1, h, eJ⟩⟩
