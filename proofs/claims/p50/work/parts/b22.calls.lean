/-! ===== what calls make: calls, constructors, casts ===== -/
section WYC
variable {G : KG} {X : KX} {nL : Nat} {Qs : State → Prop} {a b pc : Nat} {lv : List (Option Value)} {st : List Value} {S : Sg} {cc : ByteArray} {own : String} {ret : Option FieldType} {Ts : List Cond} {Q : Option Value → Sg → Prop}
/-- a method that the superclass has, on an object of a class whose own it is -/
theorem wm_callU (C : Fr G X cc nL own ret Ts) {x y : MethodName} {bytes : ByteArray} {maxL idx a' b' : Nat} {yret : Option FieldType} {ws ws' : List Cond} {rm : Room} {As st0 : List Value} {o ci : Nat} {ks : List Nat} {Cn owner : String} {T : u_T} {N : Nat} (hs : shK G S o = some (.inl (ci, ks))) (hcl : vwCl[ci]? = some (Cn, T, N)) (h : Ctr G y ws rm (.ref (kadr G o) :: As) S Q) (n : Nat) (g : GoodIn Ts (va_wsU own idx Cn owner x y ws)) (hw : ws = Cond.code y bytes maxL yret :: ws') (hyx : y = ⟨owner, x.name, x.desc⟩) (hd : owner ≠ "java/lang/invoke/MethodHandle" ∧ owner ≠ "java/lang/invoke/VarHandle" ∧ (parseMethodDescriptor x.desc).map (fun d => d.parameters.length) = some n) (hR : rm.frames + 1 ≤ (KR X).frames ∧ 8 + (maxL + 11) + rm.locals ≤ (KR X).locals) (hn : As.length = n) (hc : (st.map fun v => v.category).sum ≤ 8) (hca : rm.cells + a' = a) (hcb : rm.slots + b' = b) (hst : st0 = As.reverse ++ .ref (kadr G o) :: st) (d : decode cc pc = .ok (.invokevirtual idx, 3)) (k : ∀ r S', Q r S' → Wm G X nL Qs a' b' (pc + 3) lv (r.toList ++ st) S') : Wm G X nL Qs a b pc lv st0 S := by
  subst hst
  obtain ⟨p, e, R, s, m, args, below, meth, c⟩ := X
  obtain ⟨hx, hb, hml, hown, hts, hr, hlk, hKK, hG, hlo⟩ := C
  intro k9 n9 hk9 hn9 H locs ls hP hS hl
  have hf : k9 + rm.cells ≤ R.cells ∧ n9 + rm.slots ≤ R.slots := by constructor <;> omega
  have hR : rm.frames + 1 ≤ R.frames ∧ 8 + (maxL + 11) + rm.locals ≤ R.locals := hR
  refine va_callQ (va_runU (p := p) (As := As) (rest := st) ⟨hx, hb, hml, hown, hts⟩ h (va_cwU n hts g hw rfl rfl hyx hd hR) ⟨frameBlind_pc, krecv hs hcl hP hKK, kpre hP hKK hlo hS⟩ rfl hn hl.1 rfl (lv_room hc) d hf) hS (fun r S' H1 locs1 hq hP1 hS1 => ?_)
  exact k r S' hq (k9 + rm.cells) (n9 + rm.slots) (by omega) (by omega) H1 locs1 ls hP1 hS1 hl
/-- a method of the object's class that overrides the one that is named -/
theorem wm_callO (C : Fr G X cc nL own ret Ts) {x y : MethodName} {bytes : ByteArray} {maxL idx a' b' : Nat} {yret : Option FieldType} {ws ws' : List Cond} {rm : Room} {As st0 : List Value} {o ci : Nat} {ks : List Nat} {Cn owner : String} {T : u_T} {N : Nat} {b0 : ByteArray} {m0 : Nat} {r0 : Option FieldType} (hs : shK G S o = some (.inl (ci, ks))) (hcl : vwCl[ci]? = some (Cn, T, N)) (h : Ctr G y ws rm (.ref (kadr G o) :: As) S Q) (n : Nat) (g : GoodIn Ts (va_wsO own idx Cn owner x y ws)) (hw : ws = Cond.code y bytes maxL yret :: ws') (h0 : Cond.code ⟨owner, x.name, x.desc⟩ b0 m0 r0 ∈ Ts) (hd : owner ≠ "java/lang/invoke/MethodHandle" ∧ owner ≠ "java/lang/invoke/VarHandle" ∧ (parseMethodDescriptor x.desc).map (fun d => d.parameters.length) = some n) (hR : rm.frames + 1 ≤ (KR X).frames ∧ 8 + (maxL + 11) + rm.locals ≤ (KR X).locals) (hn : As.length = n) (hc : (st.map fun v => v.category).sum ≤ 8) (hca : rm.cells + a' = a) (hcb : rm.slots + b' = b) (hst : st0 = As.reverse ++ .ref (kadr G o) :: st) (d : decode cc pc = .ok (.invokevirtual idx, 3)) (k : ∀ r S', Q r S' → Wm G X nL Qs a' b' (pc + 3) lv (r.toList ++ st) S') : Wm G X nL Qs a b pc lv st0 S := by
  subst hst
  obtain ⟨p, e, R, s, m, args, below, meth, c⟩ := X
  obtain ⟨hx, hb, hml, hown, hts, hr, hlk, hKK, hG, hlo⟩ := C
  intro k9 n9 hk9 hn9 H locs ls hP hS hl
  have hf : k9 + rm.cells ≤ R.cells ∧ n9 + rm.slots ≤ R.slots := by constructor <;> omega
  have hR : rm.frames + 1 ≤ R.frames ∧ 8 + (maxL + 11) + rm.locals ≤ R.locals := hR
  refine va_callQ (va_runU (p := p) (As := As) (rest := st) ⟨hx, hb, hml, hown, hts⟩ h (va_cwO n hts g hw rfl rfl h0 hd hR) ⟨frameBlind_pc, krecv hs hcl hP hKK, kpre hP hKK hlo hS⟩ rfl hn hl.1 rfl (lv_room hc) d hf) hS (fun r S' H1 locs1 hq hP1 hS1 => ?_)
  exact k r S' hq (k9 + rm.cells) (n9 + rm.slots) (by omega) (by omega) H1 locs1 ls hP1 hS1 hl
/-- super.m(..) -/
theorem wm_callSU (C : Fr G X cc nL own ret Ts) {y : MethodName} {bytes : ByteArray} {maxL idx a' b' : Nat} {yret : Option FieldType} {ws ws' : List Cond} {rm : Room} {As st0 : List Value} {o ci : Nat} {ks : List Nat} {Cn : String} {T : u_T} {N : Nat} (hs : shK G S o = some (.inl (ci, ks))) (hcl : vwCl[ci]? = some (Cn, T, N)) (h : Ctr G y ws rm (.ref (kadr G o) :: As) S Q) (n : Nat) (g : GoodIn Ts (va_wsSU own idx y ws)) (hw : ws = Cond.code y bytes maxL yret :: ws') (hd : y.name ≠ "<init>" ∧ (parseMethodDescriptor y.desc).map (fun d => d.parameters.length) = some n) (hR : rm.frames + 1 ≤ (KR X).frames ∧ 8 + (maxL + 11) + rm.locals ≤ (KR X).locals) (hn : As.length = n) (hc : (st.map fun v => v.category).sum ≤ 8) (hca : rm.cells + a' = a) (hcb : rm.slots + b' = b) (hst : st0 = As.reverse ++ .ref (kadr G o) :: st) (d : decode cc pc = .ok (.invokespecial idx, 3)) (k : ∀ r S', Q r S' → Wm G X nL Qs a' b' (pc + 3) lv (r.toList ++ st) S') : Wm G X nL Qs a b pc lv st0 S := by
  subst hst
  obtain ⟨p, e, R, s, m, args, below, meth, c⟩ := X
  obtain ⟨hx, hb, hml, hown, hts, hr, hlk, hKK, hG, hlo⟩ := C
  intro k9 n9 hk9 hn9 H locs ls hP hS hl
  have hf : k9 + rm.cells ≤ R.cells ∧ n9 + rm.slots ≤ R.slots := by constructor <;> omega
  have hR : rm.frames + 1 ≤ R.frames ∧ 8 + (maxL + 11) + rm.locals ≤ R.locals := hR
  have hat : ClassAt s Cn (G.2.2.1.1 ci) := (hKK.1.1 ci _ hcl).2
  refine va_callQ (va_runSU (p := p) (C := Cn) (As := As) (rest := st) hat ⟨hx, hb, hml, hown, hts⟩ h (va_cwSU n hts g hw rfl rfl hd hR) ⟨frameBlind_pc, krecv hs hcl hP hKK, kpre hP hKK hlo hS⟩ rfl hn hl.1 rfl (lv_room hc) d hf) hS (fun r S' H1 locs1 hq hP1 hS1 => ?_)
  exact k r S' hq (k9 + rm.cells) (n9 + rm.slots) (by omega) (by omega) H1 locs1 ls hP1 hS1 hl
theorem va_callQ5 {p : Program} {l : Launch} {e : Env} {R : Room} {s : State} {m : MethodId} {args : Array Value} {below : List Frame} {meth : Method} {c : Code} {H : Heap} {locs : List Loc} {cells slots : Nat} {Qs : State → Prop} {pc : Nat} {ls : Array Slot} {rest st0 : List Value} {av : Array Value} {mc ms : Nat} {G : KG} {Q : Option Value → Sg → Prop} {H0 : Heap}
    (hr : va_Run5 p l e R s m args below meth c H locs cells slots mc ms (F0 m pc ls st0) rest (QcU G Q av) (KFr G)) (hS : va_S (KFr G) H0 H locs)
    (kk : ∀ (r : Option Value) (S' : Sg) (H1 : Heap) (locs1 : List Loc), Q r S' → Pic G S' H1 → va_S (KFr G) H0 H1 locs1 → W p l e R s m args below meth c H1 locs1 (cells + mc) (slots + ms) Qs (F0 m (pc + 5) ls (r.toList ++ rest))) : W p l e R s m args below meth c H locs cells slots Qs (F0 m pc ls st0) := by
  intro T hT X
  obtain ⟨v, st₀, t, T', L, h0, X', hL, e1, e2, ⟨⟨r, S', hv, hp, hb⟩, hz, hk⟩, stp⟩ := hr T hT X
  cases hv
  rw [h0] at hz hk
  obtain ⟨t2, a1, b1⟩ := kk v S' T'.heap (locs ++ L) hp (by rw [e1]; exact hb)
    ⟨Nat.le_trans hS.1 (by rw [e1]; exact hz), fun q h1 h2 => by rw [e1, hk q (Nat.lt_of_lt_of_le h1 hS.1) h2]; exact hS.2.1 q h1 h2, fun q hq => by
      rcases List.mem_append.mp hq with h | h
      · exact hS.2.2 q h
      · exact hL q h⟩ T' rfl X'
  exact ⟨t2, stp t2 a1, b1⟩
/-- a call through an interface -/
theorem wm_callF (C : Fr G X cc nL own ret Ts) {x y : MethodName} {bytes : ByteArray} {maxL idx count a' b' : Nat} {yret : Option FieldType} {ws ws' : List Cond} {rm : Room} {As st0 : List Value} {o ci : Nat} {ks : List Nat} {Cn : String} {T : u_T} {N : Nat} (hs : shK G S o = some (.inl (ci, ks))) (hcl : vwCl[ci]? = some (Cn, T, N)) (hF : ∀ U : State, G.1.2 U → va_Fw Cn x y U) (h : Ctr G y ws rm (.ref (kadr G o) :: As) S Q) (n : Nat) (g : GoodIn Ts (va_wsF own idx Cn x y ws)) (hw : ws = Cond.code y bytes maxL yret :: ws') (hd : x.cls ≠ "java/lang/invoke/MethodHandle" ∧ x.cls ≠ "java/lang/invoke/VarHandle" ∧ (parseMethodDescriptor x.desc).map (fun d => d.parameters.length) = some n) (hR : rm.frames + 1 ≤ (KR X).frames ∧ 8 + (maxL + 11) + rm.locals ≤ (KR X).locals) (hn : As.length = n) (hc : (st.map fun v => v.category).sum ≤ 8) (hca : rm.cells + a' = a) (hcb : rm.slots + b' = b) (hst : st0 = As.reverse ++ .ref (kadr G o) :: st) (d : decode cc pc = .ok (.invokeinterface idx count, 5)) (k : ∀ r S', Q r S' → Wm G X nL Qs a' b' (pc + 5) lv (r.toList ++ st) S') : Wm G X nL Qs a b pc lv st0 S := by
  subst hst
  obtain ⟨p, e, R, s, m, args, below, meth, c⟩ := X
  obtain ⟨hx, hb, hml, hown, hts, hr, hlk, hKK, hG, hlo⟩ := C
  intro k9 n9 hk9 hn9 H locs ls hP hS hl
  have hf : k9 + rm.cells ≤ R.cells ∧ n9 + rm.slots ≤ R.slots := by constructor <;> omega
  have hR : rm.frames + 1 ≤ R.frames ∧ 8 + (maxL + 11) + rm.locals ≤ R.locals := hR
  have hat : ClassAt s Cn (G.2.2.1.1 ci) := (hKK.1.1 ci _ hcl).2
  refine va_callQ5 (va_runF (p := p) (As := As) (rest := st) hat ⟨hx, hb, hml, hown, hts⟩ h (va_cwF n hts g hw rfl rfl (hF s hKK.2.2.1) hd hR) ⟨frameBlind_pc, krecv hs hcl hP hKK, kpre hP hKK hlo hS⟩ rfl hn hl.1 rfl (lv_room hc) d hf) hS (fun r S' H1 locs1 hq hP1 hS1 => ?_)
  exact k r S' hq (k9 + rm.cells) (n9 + rm.slots) (by omega) (by omega) H1 locs1 ls hP1 hS1 hl
/-- a constructor -/
theorem wm_callI (C : Fr G X cc nL own ret Ts) {y : MethodName} {bytes : ByteArray} {maxL idx a' b' : Nat} {ws ws' : List Cond} {rm : Room} {As st0 : List Value} {q : Nat} (h : Ctr G y ws rm (.ref q :: As) S Q) (n : Nat) (g : GoodIn Ts ws) (hlk9 : Cond.methodLink own idx y ∈ Ts) (hst9 : Cond.instanceMethod y ∈ Ts) (hin9 : Cond.initialized y.cls ∈ Ts) (hy1 : y.name = "<init>") (hw : ws = Cond.code y bytes maxL none :: ws') (hd : y.cls ≠ "java/lang/invoke/MethodHandle" ∧ y.cls ≠ "java/lang/invoke/VarHandle" ∧ (parseMethodDescriptor y.desc).map (fun d => d.parameters.length) = some n) (hR : rm.frames + 1 ≤ (KR X).frames ∧ 8 + (maxL + 11) + rm.locals ≤ (KR X).locals) (hn : As.length = n) (hc : (st.map fun v => v.category).sum ≤ 8) (hca : rm.cells + a' = a) (hcb : rm.slots + b' = b) (hst : st0 = As.reverse ++ .ref q :: st) (d : decode cc pc = .ok (.invokespecial idx, 3)) (k : ∀ r S', Q r S' → Wm G X nL Qs a' b' (pc + 3) lv (r.toList ++ st) S') : Wm G X nL Qs a b pc lv st0 S := by
  subst hst
  obtain ⟨p, e, R, s, m, args, below, meth, c⟩ := X
  obtain ⟨hx, hb, hml, hown, hts, hr, hlk, hKK, hG, hlo⟩ := C
  intro k9 n9 hk9 hn9 H locs ls hP hS hl
  have hf : k9 + rm.cells ≤ R.cells ∧ n9 + rm.slots ≤ R.slots := by constructor <;> omega
  have hR : rm.frames + 1 ≤ R.frames ∧ 8 + (maxL + 11) + rm.locals ≤ R.locals := hR
  refine va_callQ (va_runI (p := p) (As := As) (rest := st) ⟨hx, hb, hml, hown, hts⟩ h (cwI n hts g hw rfl rfl (hts _ hin9) (hts _ hlk9) (hts _ hst9) hy1 hd hR) ⟨frameBlind_pc, kpre hP hKK hlo hS⟩ rfl hn hl.1 rfl (lv_room hc) d hf) hS (fun r S' H1 locs1 hq hP1 hS1 => ?_)
  exact k r S' hq (k9 + rm.cells) (n9 + rm.slots) (by omega) (by omega) H1 locs1 ls hP1 hS1 hl
end WYC
section WYD
variable {G : KG} {X : KX} {nL : Nat} {Qs : State → Prop} {a b a' b' pc : Nat} {lv : List (Option Value)} {st : List Value} {I : Ii} {J : Jj} {cc : ByteArray} {own : String} {ret : Option FieldType} {Ts : List Cond} {Q : Option Value → Sg → Prop}
/-- a method of a text -/
theorem wy_callT (C : Fr G X cc nL own ret Ts) (hW : KWx G) {y : MethodName} {bytes : ByteArray} {maxL idx a' b' : Nat} {yret : Option FieldType} {ws ws' : List Cond} {rm : Room} {As st0 : List Value} {o : Nat} (g5 : dS I o = 5) (h : Ctr G y ws rm (.ref (kadr G o) :: As) (I, J) Q) (n : Nat) (g : GoodIn Ts (wsV own idx "java/lang/String" y ws)) (hw : ws = Cond.code y bytes maxL yret :: ws') (hd : y.cls = "java/lang/String" ∧ y.cls ≠ "java/lang/invoke/MethodHandle" ∧ y.cls ≠ "java/lang/invoke/VarHandle" ∧ (parseMethodDescriptor y.desc).map (fun d => d.parameters.length) = some n) (hR : rm.frames + 1 ≤ (KR X).frames ∧ 8 + (maxL + 11) + rm.locals ≤ (KR X).locals) (hn : As.length = n) (hc : (st.map fun v => v.category).sum ≤ 8) (hca : rm.cells + a' = a) (hcb : rm.slots + b' = b) (hst : st0 = As.reverse ++ .ref (kadr G o) :: st) (d : decode cc pc = .ok (.invokevirtual idx, 3)) (k : ∀ r S', Q r S' → Wm G X nL Qs a' b' (pc + 3) lv (r.toList ++ st) S') : Wz G X nL Qs a b pc lv st0 I J := by
  refine Wz.know (fun hs hl9 => ?_)
  rcases dS_5 hs hl9 g5 with c | ⟨i, w, hi, rfl⟩
  · exact wm_callV C (S := (I, J)) (sK5 (G := G) (J := J) g5 c) rfl h n g hw hd hR hn hc hca hcb hst d k
  · obtain ⟨mi, hW⟩ := hW
    subst hst
    obtain ⟨p, e, R, s, m, args, below, meth, c⟩ := X
    obtain ⟨hx, hb, hml, hown, hts, hr, hlk, hKK, hG, hlo⟩ := C
    intro k9 n9 hk9 hn9 H locs ls hP hS hl
    have hf : k9 + rm.cells ≤ R.cells ∧ n9 + rm.slots ≤ R.slots := by constructor <;> omega
    have hR : rm.frames + 1 ≤ R.frames ∧ 8 + (maxL + 11) + rm.locals ≤ R.locals := hR
    have hrc : ∃ cellB : Cell, H[kadr G (900 + 2 * i)]? = some cellB ∧ cellB.vm.isStatics = false ∧ s.vm.findClass "java/lang/String" = some cellB.cls := by
      obtain ⟨cell, h1, h2, h3, -⟩ := ((hW s hKK.2.2.1).2.1 i w hi).1.kept hS.2.1
      exact ⟨cell, h1, h2, h3⟩
    refine va_callQ (va_runV (p := p) (As := As) (rest := st) ⟨hx, hb, hml, hown, hts⟩ h (cwV n hts g hw rfl rfl hd hR) ⟨frameBlind_pc, hrc, kpre hP hKK hlo hS⟩ rfl hn hl.1 rfl (lv_room hc) d hf) hS (fun r S' H1 locs1 hq hP1 hS1 => ?_)
    exact k r S' hq (k9 + rm.cells) (n9 + rm.slots) (by omega) (by omega) H1 locs1 ls hP1 hS1 hl
/-- Object's constructor -/
theorem wy_obj (C : Fr G X cc nL own ret Ts) {idx q : Nat} (h1 : Cond.methodLink own idx Lib.objectInit ∈ Ts) (h2 : Cond.instanceMethod Lib.objectInit ∈ Ts) (h3 : Cond.code Lib.objectInit ⟨#[0xb1]⟩ 1 none ∈ Ts) (hR : 1 ≤ (KR X).frames ∧ (st.map fun v => v.category).sum + 12 ≤ (KR X).locals) (d : decode cc pc = .ok (.invokespecial idx, 3)) (k : Wz G X nL Qs a b (pc + 3) lv st I J) : Wz G X nL Qs a b pc lv (.ref q :: st) I J := by
  obtain ⟨p, e, R, s, m, args, below, meth, c⟩ := X
  obtain ⟨hx, hb, hml, hown, hts, hr, hlk, hKK, hG, hlo⟩ := C
  intro k9 n9 hk9 hn9 H locs ls hP hS hl
  have hR : 1 ≤ R.frames ∧ (st.map fun v => v.category).sum + 12 ≤ R.locals := hR
  exact W.objInit hx hb hown (hts _ h1) (hts _ h2) (hts _ h3) rfl (by rw [hml]; exact hl.1) rfl d hR.1 (by show 2 * 0 + _ + 12 ≤ _; omega) (k k9 n9 hk9 hn9 H locs ls hP hS hl)
/-- an answer that is a key -/
def QsK (G : KG) (P : Nat → Ii → Jj → Prop) : Option Value → Sg → Prop := fun r S' => ∃ o : Nat, r = some (.ref (kadr G o)) ∧ P o S'.1 S'.2
theorem kk_sK {P : Nat → Ii → Jj → Prop} (k : ∀ (v : Nat) (I2 : Ii) (J2 : Jj), P v I2 J2 → Wz G X nL Qs a b pc lv (.ref (kadr G v) :: st) I2 J2) : ∀ r S', QsK G P r S' → Wm G X nL Qs a b pc lv (r.toList ++ st) S' := by
  rintro r S' ⟨v, rfl, h⟩
  exact k v S'.1 S'.2 h
theorem wy_aret {rt : FieldType} (C : Fr G X cc nL own (some rt) Ts) (hrt : (∃ n, rt = .object n) ∨ ∃ t, rt = .array t) {q : Nat} (d : decode cc pc = .ok (.areturn, 1)) (hq : Q (some (.ref q)) (I, J)) : Wz G X nL (QsU G X Q) a b pc lv [.ref q] I J := by
  obtain ⟨p, e, R, s, m, args, below, meth, c⟩ := X
  obtain ⟨hx, hb, hml, hown, hts, hr, hlk, hKK, hG, hlo⟩ := C
  intro k9 n9 hk9 hn9 H locs ls hP hS hl
  refine mq_widen (k2 := R.cells) (n2 := R.slots) (by omega) (by omega) ?_
  exact W.aret hx hb hr hrt (Or.inr ⟨_, rfl⟩) (fun t ht hW => ⟨⟨_, (I, J), rfl, hq, by rw [ht]; exact hP⟩, hS.F ht⟩) hS.2.2 d hlk
theorem nar7 (ty : FieldType) (ht : ty = .char ∨ ty = .byte) {x : Int} (h : 0 ≤ x ∧ x < 128) : narrow ty (.int (iZ x)) = .int (iZ x) := by
  have h1 : ∀ b : Fin 128, (iZ (b.val : Int)).toUInt32.toUInt16.toUInt32.toInt32 = iZ (b.val : Int) := by decide +kernel
  have h2 : ∀ b : Fin 128, (iZ (b.val : Int)).toInt8.toInt32 = iZ (b.val : Int) := by decide +kernel
  have e : (((⟨x.toNat, by omega⟩ : Fin 128).val : Nat) : Int) = x := by show ((x.toNat : Nat) : Int) = x; omega
  rcases ht with rfl | rfl
  · have := h1 ⟨x.toNat, by omega⟩
    rw [e] at this
    exact congrArg Value.int this
  · have := h2 ⟨x.toNat, by omega⟩
    rw [e] at this
    exact congrArg Value.int this
theorem wy_nret {ty : FieldType} (C : Fr G X cc nL own (some ty) Ts) (ht : ty = .char ∨ ty = .byte) {x : Int} (h : 0 ≤ x ∧ x < 128) (dd : decode cc pc = .ok (.ireturn, 1)) (hq : Q (some (.int (iZ x))) (I, J)) : Wz G X nL (QsU G X Q) a b pc lv [.int (iZ x)] I J := by
  obtain ⟨p, e, R, s, m, args, below, meth, c⟩ := X
  obtain ⟨hx, hb, hml, hown, hts, hr, hlk, hKK, hG, hlo⟩ := C
  intro k9 n9 hk9 hn9 H locs ls hP hS hl
  refine mq_widen (k2 := R.cells) (n2 := R.slots) (by omega) (by omega) ?_
  exact W.zret hx hb hr (nar7 ty ht h) (fun t ht hW => ⟨⟨_, (I, J), rfl, hq, by rw [ht]; exact hP⟩, hS.F ht⟩) hS.2.2 dd hlk
theorem wy_gets (C : Fr G X cc nL own ret Ts) {Cn n d : String} {v : Value} {idx : Nat} (hZ : ∀ U : State, G.1.2 U → va_Z Cn n d v (KFr G) U U.heap) (hlk : Cond.fieldLink own idx Cn n d ∈ Ts) (dd : decode cc pc = .ok (.getstatic idx, 3)) (k : Wz G X nL Qs a b (pc + 3) lv (v :: st) I J) : Wz G X nL Qs a b pc lv st I J := by
  obtain ⟨p, e, R, s, m, args, below, meth, c⟩ := X
  obtain ⟨hx, hb, hml, hown, hts, hr, hlk9, hKK, hG, hlo⟩ := C
  intro k9 n9 hk9 hn9 H locs ls hP hS hl
  exact va_gets hx hb (hZ s hKK.2.2.1) hS hown (hts _ hlk) (fun x h => h) dd (k k9 n9 hk9 hn9 H locs ls hP hS hl)
theorem wy_getsq (C : Fr G X cc nL own ret Ts) {Cn n d : String} {idx : Nat} (hZ : ∀ U : State, G.1.2 U → va_Zq Cn n d (KFr G) U U.heap) (hlk : Cond.fieldLink own idx Cn n d ∈ Ts) (dd : decode cc pc = .ok (.getstatic idx, 3)) (k : ∀ v : Value, (v = .null ∨ ∃ t, v = .ref t) → Wz G X nL Qs a b (pc + 3) lv (v :: st) I J) : Wz G X nL Qs a b pc lv st I J := by
  obtain ⟨p, e, R, s, m, args, below, meth, c⟩ := X
  obtain ⟨hx, hb, hml, hown, hts, hr, hlk9, hKK, hG, hlo⟩ := C
  intro k9 n9 hk9 hn9 H locs ls hP hS hl
  rcases hZ s hKK.2.2.1 with z | ⟨t, z⟩
  · exact va_gets hx hb z hS hown (hts _ hlk) (fun x h => h) dd (k _ (Or.inl rfl) k9 n9 hk9 hn9 H locs ls hP hS hl)
  · exact va_gets hx hb z hS hown (hts _ hlk) (fun x h => h) dd (k _ (Or.inr ⟨t, rfl⟩) k9 n9 hk9 hn9 H locs ls hP hS hl)
theorem wy_ldcS (C : Fr G X cc nL own ret Ts) (hW : KWx G) {tx : String} {idx q : Nat} (hq : (own, idx, tx, q) ∈ kLdc) (dd : decode cc pc = .ok (.ldc idx, 2)) (k : Wz G X nL Qs a b (pc + 2) lv (.ref (kadr G q) :: st) I J) : Wz G X nL Qs a b pc lv st I J := by
  obtain ⟨mi, hW⟩ := hW
  obtain ⟨p, e, R, s, m, args, below, meth, c⟩ := X
  obtain ⟨hx, hb, hml, hown, hts, hr, hlk9, hKK, hG, hlo⟩ := C
  intro k9 n9 hk9 hn9 H locs ls hP hS hl
  exact va_ldcS hx hb hown ((hW s hKK.2.2.1).2.2.2.2.2.2 _ hq) dd (k k9 n9 hk9 hn9 H locs ls hP hS hl)
/-- a row of ints that was an object -/
theorem wy_castI (C : Fr G X cc nL own ret Ts) {o idx : Nat} (g : dS I o = 1) (h1 : Cond.classLink own idx "[I" ∈ Ts) (d : decode cc pc = .ok (.checkcast idx, 3)) (k : Wz G X nL Qs a b (pc + 3) lv (.ref (kadr G o) :: st) I J) : Wz G X nL Qs a b pc lv (.ref (kadr G o) :: st) I J := by
  refine Wz.know (fun hs hl9 => ?_)
  obtain ⟨p, e, R, s, m, args, below, meth, c⟩ := X
  obtain ⟨hx, hb, hml, hown, hts, hr, hlk, hKK, hG, hlo⟩ := C
  intro k9 n9 hk9 hn9 H locs ls hP hS hl
  have hfI : s.vm.findClass "[I" = some G.2.2.2.1.1 := (hKK.1.2 0 _ rfl).2
  exact va_castA (D := G.2.2.1) (cl := vwCl) hx hb hown (hts _ h1) (va_P1 (hP.row (sK1 hs hl9 g))) 0 rfl hfI d (k k9 n9 hk9 hn9 H locs ls hP hS hl)
theorem wy_castB (C : Fr G X cc nL own ret Ts) {o idx : Nat} (g : dS I o = 2 ∧ 1022 ≤ o) (h1 : Cond.classLink own idx "[B" ∈ Ts) (d : decode cc pc = .ok (.checkcast idx, 3)) (k : Wz G X nL Qs a b (pc + 3) lv (.ref (kadr G o) :: st) I J) : Wz G X nL Qs a b pc lv (.ref (kadr G o) :: st) I J := by
  obtain ⟨p, e, R, s, m, args, below, meth, c⟩ := X
  obtain ⟨hx, hb, hml, hown, hts, hr, hlk, hKK, hG, hlo⟩ := C
  intro k9 n9 hk9 hn9 H locs ls hP hS hl
  have hfI : s.vm.findClass "[B" = some G.2.2.2.1.2.2.2.1 := (hKK.1.2 3 _ rfl).2
  exact va_castA (D := G.2.2.1) (cl := vwCl) hx hb hown (hts _ h1) (va_P1 (hP.row (sK2 (G := G) (J := J) g.1 g.2))) 0 rfl hfI d (k k9 n9 hk9 hn9 H locs ls hP hS hl)
end WYD
/-- a method's contract; a constructor's run may write final fields -/
theorem Ctr.ofI {G : KG} {y : MethodName} {ws ws' : List Cond} {rm : Room} {Av : List Value} {I : Ii} {J : Jj} {Q : Option Value → Sg → Prop} {cc : ByteArray} {nL : Nat} {ret : Option FieldType} (lv : List (Option Value)) (hG : Kok G) (hy : plainName y.cls = true) (hin : y.name = "<init>") (hw : ws = Cond.code y cc nL ret :: ws') (hlen : (lg_sl Av).length ≤ nL) (hlv : lv.length ≤ nL) (hla : ∀ q ∈ lvA 0 lv, q ∈ lv_args 0 Av)
    (body : ∀ X : KX, KR X = rm → KN X = "<init>" → Fr G X cc nL y.cls ret ws → Wz G X nL (QsU G X Q) rm.cells rm.slots 0 lv [] I J) : Ctr G y ws rm Av (I, J) Q := by
  refine Met.ofW (cc := cc) (maxL := nL) (ret := ret) hy hw ?_
  intro p e s m args below meth c s₁ B hml hv
  obtain ⟨rfl, hP, hK, hsz⟩ := hv
  have hown : s.vm.findClass y.cls = some m.cls := findClass_of_methodNamed B.named
  have hnm : meth.name = "<init>" := (name_of_methodNamed B.named B.method).1.trans hin
  rw [lg_entry_eq]
  exact body (p, e, rm, s, m, Av.toArray, below, meth, c) rfl hnm ⟨B.exec, B.bytes, hml, hown, atoms_spec (ws := ws) B.pre, B.returns, B.notSynchronized, hK, hG, hsz⟩ 0 0 (by show 0 + rm.cells ≤ rm.cells; omega) (by show 0 + rm.slots ≤ rm.slots; omega) s.heap [] _ hP va_S.rf (lvD.of (lv_entry Av hlen) hlv (fun i v h => hla (i, v) ((lvA_mem lv 0 (i, v)).mpr ⟨Nat.zero_le _, h⟩)))
